/-! rows of arrays -/
section X_ARR
variable {p : Program} {l : Launch} {e : Env} {R : Room} {s : State} {m : MethodId} {args : Array Value} {below : List Frame} {meth : Method} {c : Code} {H : Heap} {locs : List Loc} {cells slots : Nat} {Q : State → Prop}
variable {scr : Cell} {D : va_G} {cA : FieldType → ClassId} {b B : Nat} {j : Nat} {lsA : Array Slot} {S : X_S}
theorem X_iald (C : X_Cx scr D cA p R s m args meth c j) {pc n q k0 : Nat} {ax : Nat × Nat × Nat} {f : Nat → Int32} {i : Int32} {r : List Value} (hc : X_chk j (pc, (.iaload, n), ax) = true) (hR : X_Rl b B scr D cA S H)
    (h1 : S.1 q = .inl (.int, k0, .inl f)) (h0 : ¬ (i < 0 ∨ k0 ≤ i.toNatClampNeg))
    (k : W p l e R s m args below meth c H locs cells slots Q (F0 m (pc + 1) lsA (.int (f i.toNatClampNeg) :: r))) : W p l e R s m args below meth c H locs cells slots Q (F0 m pc lsA (.int i :: .ref (X_ad b B q) :: r)) := by
  obtain ⟨hx, hb, hr, hml, hown, hts, hlocks, hin, hK, hfr, hlo, hlaw⟩ := C
  have hd := X_chk_dec hc
  have hat : H[X_ad b B q]? = some (vp_cell (cA .int) (k0, .inl f)) := hR.at h1 X_inl_ne
  exact W.iald (v := .int (f i.toNatClampNeg)) hx hb hat ((hK.2.1 .int (by decide)).1 k0 (fun j => .int (f j))) (fun q => by cases q) (by show ¬ (i < 0 ∨ (arrV _ _ _).slots.size ≤ _); rw [arrV_size]; exact h0) (by show (arrV _ _ _).slots[_]? = _; rw [arrV_read _ _ (X_in h0)]) rfl rfl hd k
theorem X_lald (C : X_Cx scr D cA p R s m args meth c j) {pc n q k0 : Nat} {ax : Nat × Nat × Nat} {f : Nat → Int64} {i : Int32} {r : List Value} (hc : X_chk j (pc, (.laload, n), ax) = true) (hR : X_Rl b B scr D cA S H) 
    (h1 : S.1 q = .inl (.long, k0, .inr (.inl f))) (h0 : ¬ (i < 0 ∨ k0 ≤ i.toNatClampNeg))
    (k : W p l e R s m args below meth c H locs cells slots Q (F0 m (pc + 1) lsA (.long (f i.toNatClampNeg) :: r))) : W p l e R s m args below meth c H locs cells slots Q (F0 m pc lsA (.int i :: .ref (X_ad b B q) :: r)) := by
  obtain ⟨hx, hb, hr, hml, hown, hts, hlocks, hin, hK, hfr, hlo, hlaw⟩ := C
  have hd := X_chk_dec hc
  have hat : H[X_ad b B q]? = some (vp_cell (cA .long) (k0, .inr (.inl f))) := hR.at h1 X_inl_ne
  exact W.lald (v := .long (f i.toNatClampNeg)) hx hb hat ((hK.2.1 .long (by decide)).1 k0 (fun j => .long (f j))) (fun q => by cases q) (by show ¬ (i < 0 ∨ (arrV _ _ _).slots.size ≤ _); rw [arrV_size]; exact h0) (by show (arrV _ _ _).slots[_]? = _; rw [arrV_read _ _ (X_in h0)]) rfl rfl hd k
theorem X_bald (C : X_Cx scr D cA p R s m args meth c j) {pc n q k0 : Nat} {ax : Nat × Nat × Nat} {f : Nat → Int32} {i : Int32} {r : List Value} (hc : X_chk j (pc, (.baload, n), ax) = true) (hR : X_Rl b B scr D cA S H) 
    (h1 : S.1 q = .inl (.byte, k0, .inl f)) (h0 : ¬ (i < 0 ∨ k0 ≤ i.toNatClampNeg))
    (k : W p l e R s m args below meth c H locs cells slots Q (F0 m (pc + 1) lsA (.int (f i.toNatClampNeg) :: r))) : W p l e R s m args below meth c H locs cells slots Q (F0 m pc lsA (.int i :: .ref (X_ad b B q) :: r)) := by
  obtain ⟨hx, hb, hr, hml, hown, hts, hlocks, hin, hK, hfr, hlo, hlaw⟩ := C
  have hd := X_chk_dec hc
  have hat : H[X_ad b B q]? = some (vp_cell (cA .byte) (k0, .inl f)) := hR.at h1 X_inl_ne
  exact W.bald (v := .int (f i.toNatClampNeg)) hx hb hat ((hK.2.1 .byte (by decide)).1 k0 (fun j => .int (f j))) (fun q => by cases q) (by show ¬ (i < 0 ∨ (arrV _ _ _).slots.size ≤ _); rw [arrV_size]; exact h0) (by show (arrV _ _ _).slots[_]? = _; rw [arrV_read _ _ (X_in h0)]) rfl rfl hd k
theorem X_aald (C : X_Cx scr D cA p R s m args meth c j) {pc n q k0 : Nat} {ax : Nat × Nat × Nat} {f : Nat → Option Nat} {i : Int32} {r : List Value} (hc : X_chk j (pc, (.aaload, n), ax) = true) (hR : X_Rl b B scr D cA S H)
    (h1 : S.1 q = .inl (.short, k0, .inr (.inr (.inr (.inr f))))) (h0 : ¬ (i < 0 ∨ k0 ≤ i.toNatClampNeg))
    (k : W p l e R s m args below meth c H locs cells slots Q (F0 m (pc + 1) lsA (X_cv (X_ad b B) (va_rf (f i.toNatClampNeg)) :: r))) : W p l e R s m args below meth c H locs cells slots Q (F0 m pc lsA (.int i :: .ref (X_ad b B q) :: r)) := by
  obtain ⟨hx, hb, hr, hml, hown, hts, hlocks, hin, hK, hfr, hlo, hlaw⟩ := C
  have hd := X_chk_dec hc
  have hat : H[X_ad b B q]? = some (vp_cell (cA .short) (k0, .inr (.inr (.inr (.inr fun j => (f j).map (X_ad b B)))))) := hR.at h1 X_inl_ne
  have ev : X_cv (X_ad b B) (va_rf (f i.toNatClampNeg)) = va_rf ((f i.toNatClampNeg).map (X_ad b B)) := by cases f i.toNatClampNeg <;> rfl
  rw [ev] at k
  exact W.aald (v := va_rf ((f i.toNatClampNeg).map (X_ad b B))) (ty := .object RX8) hx hb hat ((hK.2.1 .short (by decide)).1 k0 (fun j => va_rf ((f j).map (X_ad b B)))) rfl (fun q => by cases q) (by show ¬ (i < 0 ∨ (arrV _ _ _).slots.size ≤ _); rw [arrV_size]; exact h0) (by show (arrV _ _ _).slots[_]? = _; rw [arrV_read _ _ (X_in h0)]) rfl rfl hd k
/-- the script -/
theorem X_sald (C : X_Cx scr D cA p R s m args meth c j) {pc n : Nat} {ax : Nat × Nat × Nat} {sc : X_Sc} {i : Int32} {r : List Value} (hsc : scr.slots.size = sc.1 ∧ ∀ j, j < sc.1 → scr.slots[j]? = some (.int (sc.2 j))) (hc : X_chk j (pc, (.iaload, n), ax) = true) (hax : ax.1 ≠ 0) (hR : X_Rl b B scr D cA S H)
    (h0 : ¬ (i < 0 ∨ sc.1 ≤ i.toNatClampNeg))
    (k : W p l e R s m args below meth c H locs cells slots Q (F0 m (pc + 1) lsA (.int (sc.2 i.toNatClampNeg) :: r))) : W p l e R s m args below meth c H locs cells slots Q (F0 m pc lsA (.int i :: .ref b :: r)) := by
  obtain ⟨hx, hb, hr, hml, hown, hts, hlocks, hin, hK, hfr, hlo, hlaw⟩ := C
  have hd := X_chk_dec hc
  obtain ⟨ha1, ha2⟩ := hlaw
  exact W.iald (v := .int (sc.2 i.toNatClampNeg)) hx hb hR.2.2.2.1 ha1 ha2 (by rw [hsc.1]; exact h0) (hsc.2 _ (X_in h0)) rfl rfl hd k
theorem X_slen (C : X_Cx scr D cA p R s m args meth c j) {pc n : Nat} {ax : Nat × Nat × Nat} {sc : X_Sc} {r : List Value} (hsc : scr.slots.size = sc.1 ∧ ∀ j, j < sc.1 → scr.slots[j]? = some (.int (sc.2 j))) (hc : X_chk j (pc, (.arraylength, n), ax) = true) (hax : ax.1 ≠ 0) (hR : X_Rl b B scr D cA S H)
    (k : W p l e R s m args below meth c H locs cells slots Q (F0 m (pc + 1) lsA (.int (Int32.ofNat sc.1) :: r))) : W p l e R s m args below meth c H locs cells slots Q (F0 m pc lsA (.ref b :: r)) := by
  obtain ⟨hx, hb, hr, hml, hown, hts, hlocks, hin, hK, hfr, hlo, hlaw⟩ := C
  have hd := X_chk_dec hc
  obtain ⟨ha1, ha2⟩ := hlaw
  exact W.alen hx hb hR.2.2.2.1 ha1 (by rw [hsc.1]) rfl rfl hd k
theorem X_iast (C : X_Cx scr D cA p R s m args meth c j) {pc n q k0 : Nat} {ax : Nat × Nat × Nat} {f : Nat → Int32} {i : Int32} {x : Int32} {r : List Value} (hc : X_chk j (pc, (.iastore, n), ax) = true) (hR : X_Rl b B scr D cA S H) (hq : ∀ q ∈ locs, B ≤ q.base)
    (h1 : S.1 q = .inl (.int, k0, .inl f)) (h2 : ¬ (i < 0 ∨ k0 ≤ i.toNatClampNeg))
    (k : ∀ H' locs', X_Rl b B scr D cA (X_upd S.1 q (.inl (.int, k0, .inl (upd f i.toNatClampNeg x))), S.2) H' → (∀ q ∈ locs', B ≤ q.base) → W p l e R s m args below meth c H' locs' cells slots Q (F0 m (pc + 1) lsA r)) : W p l e R s m args below meth c H locs cells slots Q (F0 m pc lsA (.int x :: .int i :: .ref (X_ad b B q) :: r)) := by
  obtain ⟨hx, hb, hr, hml, hown, hts, hlocks, hin, hK, hfr, hlo, hlaw⟩ := C
  have hd := X_chk_dec hc
  have hq0 : 0 < q := hR.pos h1 X_inl_ne
  have hat : H[X_ad b B q]? = some (vp_cell (cA .int) (k0, .inl f)) := hR.at h1 X_inl_ne
  refine W.iast hx hb hat ((hK.2.1 .int (by decide)).1 k0 (fun j => .int (f j))) (fun q => by cases q) (by show ¬ (i < 0 ∨ (arrV _ _ _).slots.size ≤ _); rw [arrV_size]; exact h2) rfl rfl hd fun H1 e z oq => ?_
  refine k H1 _ (hR.upd hq0 (hR.lt (by rw [h1]; exact X_inl_ne)) z oq ?_) (X_t_lc hq (X_ad_ge (by omega)))
  show H1[X_ad b B q]? = some (vp_cell _ _)
  rw [e]
  show some ((vp_cell _ _).setSlot _ _) = some (vp_cell (cA .int) (k0, .inl (upd f i.toNatClampNeg x)))
  rw [vp_cell_i, vp_cell_i, arrV_store]
  congr 2
  funext z
  by_cases hz : z = i.toNatClampNeg
  · subst hz
    simp [updV, upd]
    try rfl
  · simp [updV, upd, hz]
theorem X_last (C : X_Cx scr D cA p R s m args meth c j) {pc n q k0 : Nat} {ax : Nat × Nat × Nat} {f : Nat → Int64} {i : Int32} {x : Int64} {r : List Value} (hc : X_chk j (pc, (.lastore, n), ax) = true) (hR : X_Rl b B scr D cA S H) (hq : ∀ q ∈ locs, B ≤ q.base)
    (h1 : S.1 q = .inl (.long, k0, .inr (.inl f))) (h2 : ¬ (i < 0 ∨ k0 ≤ i.toNatClampNeg))
    (k : ∀ H' locs', X_Rl b B scr D cA (X_upd S.1 q (.inl (.long, k0, .inr (.inl (vp_updL f i.toNatClampNeg x)))), S.2) H' → (∀ q ∈ locs', B ≤ q.base) → W p l e R s m args below meth c H' locs' cells slots Q (F0 m (pc + 1) lsA r)) : W p l e R s m args below meth c H locs cells slots Q (F0 m pc lsA (.long x :: .int i :: .ref (X_ad b B q) :: r)) := by
  obtain ⟨hx, hb, hr, hml, hown, hts, hlocks, hin, hK, hfr, hlo, hlaw⟩ := C
  have hd := X_chk_dec hc
  have hq0 : 0 < q := hR.pos h1 X_inl_ne
  have hat : H[X_ad b B q]? = some (vp_cell (cA .long) (k0, .inr (.inl f))) := hR.at h1 X_inl_ne
  refine W.last hx hb hat ((hK.2.1 .long (by decide)).1 k0 (fun j => .long (f j))) (fun q => by cases q) (by show ¬ (i < 0 ∨ (arrV _ _ _).slots.size ≤ _); rw [arrV_size]; exact h2) rfl rfl hd fun H1 e z oq => ?_
  refine k H1 _ (hR.upd hq0 (hR.lt (by rw [h1]; exact X_inl_ne)) z oq ?_) (X_t_lc hq (X_ad_ge (by omega)))
  show H1[X_ad b B q]? = some (vp_cell _ _)
  rw [e]
  show some ((vp_cell _ _).setSlot _ _) = some (vp_cell (cA .long) (k0, .inr (.inl (vp_updL f i.toNatClampNeg x))))
  rw [vp_cell_l, vp_cell_l, arrV_store]
  congr 2
  funext z
  by_cases hz : z = i.toNatClampNeg
  · subst hz
    simp [updV, vp_updL]
    try rfl
  · simp [updV, vp_updL, hz]
theorem X_bast (C : X_Cx scr D cA p R s m args meth c j) {pc n q k0 : Nat} {ax : Nat × Nat × Nat} {f : Nat → Int32} {i : Int32} {x : Int32} {r : List Value} (hc : X_chk j (pc, (.bastore, n), ax) = true) (hR : X_Rl b B scr D cA S H) (hq : ∀ q ∈ locs, B ≤ q.base)
    (h1 : S.1 q = .inl (.byte, k0, .inl f)) (h2 : ¬ (i < 0 ∨ k0 ≤ i.toNatClampNeg))
    (k : ∀ H' locs', X_Rl b B scr D cA (X_upd S.1 q (.inl (.byte, k0, .inl (upd f i.toNatClampNeg (vp_nar .byte x)))), S.2) H' → (∀ q ∈ locs', B ≤ q.base) → W p l e R s m args below meth c H' locs' cells slots Q (F0 m (pc + 1) lsA r)) : W p l e R s m args below meth c H locs cells slots Q (F0 m pc lsA (.int x :: .int i :: .ref (X_ad b B q) :: r)) := by
  obtain ⟨hx, hb, hr, hml, hown, hts, hlocks, hin, hK, hfr, hlo, hlaw⟩ := C
  have hd := X_chk_dec hc
  have hq0 : 0 < q := hR.pos h1 X_inl_ne
  have hat : H[X_ad b B q]? = some (vp_cell (cA .byte) (k0, .inl f)) := hR.at h1 X_inl_ne
  refine W.bast hx hb hat ((hK.2.1 .byte (by decide)).1 k0 (fun j => .int (f j))) (fun q => by cases q) (by show ¬ (i < 0 ∨ (arrV _ _ _).slots.size ≤ _); rw [arrV_size]; exact h2) rfl rfl hd fun H1 e z oq => ?_
  refine k H1 _ (hR.upd hq0 (hR.lt (by rw [h1]; exact X_inl_ne)) z oq ?_) (X_t_lc hq (X_ad_ge (by omega)))
  show H1[X_ad b B q]? = some (vp_cell _ _)
  rw [e]
  show some ((vp_cell _ _).setSlot _ _) = some (vp_cell (cA .byte) (k0, .inl (upd f i.toNatClampNeg (vp_nar .byte x))))
  rw [vp_cell_i, vp_cell_i, arrV_store]
  congr 2
  funext z
  by_cases hz : z = i.toNatClampNeg
  · subst hz
    simp [updV, upd, vp_nar]
    try rfl
  · simp [updV, upd, vp_nar, hz]
theorem X_aast (C : X_Cx scr D cA p R s m args meth c j) {pc n q k0 v ci : Nat} {ax : Nat × Nat × Nat} {f : Nat → Option Nat} {i : Int32} {r fs : List Value} (hc : X_chk j (pc, (.aastore, n), ax) = true) (hR : X_Rl b B scr D cA S H) (hq : ∀ q ∈ locs, B ≤ q.base)
    (h1 : S.1 q = .inl (.short, k0, .inr (.inr (.inr (.inr f))))) (h3 : S.1 v = .inr (ci, fs)) (h0 : ¬ (ci ≠ X_wci ∨ i < 0 ∨ k0 ≤ i.toNatClampNeg))
    (k : ∀ H' locs', X_Rl b B scr D cA (X_upd S.1 q (.inl (.short, k0, .inr (.inr (.inr (.inr (va_up f i.toNatClampNeg (some v))))))), S.2) H' → (∀ q ∈ locs', B ≤ q.base) → W p l e R s m args below meth c H' locs' cells slots Q (F0 m (pc + 1) lsA r)) : W p l e R s m args below meth c H locs cells slots Q (F0 m pc lsA (.ref (X_ad b B v) :: .int i :: .ref (X_ad b B q) :: r)) := by
  obtain ⟨hx, hb, hr, hml, hown, hts, hlocks, hin, hK, hfr, hlo, hlaw⟩ := C
  have hd := X_chk_dec hc
  have hq0 : 0 < q := hR.pos h1 X_inl_ne
  have h2 : ¬ (i < 0 ∨ k0 ≤ i.toNatClampNeg) := fun z => h0 (Or.inr z)
  have hci : ci = X_wci := Decidable.byContradiction fun z => h0 (Or.inl z)
  subst hci
  have hat : H[X_ad b B q]? = some (vp_cell (cA .short) (k0, .inr (.inr (.inr (.inr fun j => (f j).map (X_ad b B)))))) := hR.at h1 X_inl_ne
  obtain ⟨rq, g1, cellV, q1, q2, q3, -⟩ := hR.at h3 (X_ne99 (by decide))
  have hrq : rq = (RX8, TX8, 15) := Option.some.inj (g1.symm.trans rfl)
  subst hrq
  have hcls := (hK.1 _ _ g1).2
  obtain ⟨kA, comp, k1, k2, k3, -⟩ := (hK.2.1 .short (by decide)).2
  have hcomp : comp = D.1 X_wci := Option.some.inj (k3.symm.trans hcls.1)
  subst hcomp
  obtain ⟨kC, hkC, -⟩ := hcls.2
  refine W.aast hx hb hat (fun q h => by cases h) (fun h => by cases h) k1 k2 rfl hkC ⟨fun z => h2 (Or.inl z), by show _ < (arrV _ _ _).slots.size; rw [arrV_size]; exact X_in h2⟩ q1 (fun q h => by rw [q3] at h; cases h) (by rw [q2]; exact hkC) (by rw [q2]; exact va_assign hcls) rfl rfl hd fun H1 e z oq => ?_
  refine k H1 _ (hR.upd hq0 (hR.lt (by rw [h1]; exact X_inl_ne)) z oq ?_) (X_t_lc hq (X_ad_ge (by omega)))
  show H1[X_ad b B q]? = some (vp_cell _ _)
  rw [e]
  show some ((vp_cell _ _).setSlot _ _) = some (vp_cell (cA .short) (k0, .inr (.inr (.inr (.inr fun j => (va_up f i.toNatClampNeg (some v) j).map (X_ad b B))))))
  rw [vp_cell_q, vp_cell_q, arrV_store]
  congr 2
  funext z
  by_cases hz : z = i.toNatClampNeg
  · subst hz
    simp [updV, va_up, va_rf]
  · simp [updV, va_up, hz]
set_option maxHeartbeats 1000000 in
theorem X_acopy (C : X_Cx scr D cA p R s m args meth c j) {pc idx n a a0 n0 n1 : Nat} {ax : Nat × Nat × Nat} {f g : Nat → Int64} {sp dp z : Int32} {r : List Value} (hc : X_chk j (pc, (.invokestatic idx, n), ax) = true) (hax : ax.1 = 9998) (hR : X_Rl b B scr D cA S H) (hq : ∀ q ∈ locs, B ≤ q.base) (hsz : lsA.size = X_nL j)
    (h1 : S.1 a0 = .inl (.long, n0, .inr (.inl f))) (h2 : S.1 a = .inl (.long, n1, .inr (.inl g))) (hs1 : ¬ sp < 0) (hs2 : ¬ dp < 0) (hs3 : ¬ z < 0) (h4 : sp.toNatClampNeg + z.toNatClampNeg ≤ n0) (h5 : dp.toNatClampNeg + z.toNatClampNeg ≤ n1) (hrs : (r.map fun v => v.category).sum ≤ 8)
    (k : ∀ H' locs', X_Rl b B scr D cA (X_upd S.1 a (.inl (.long, n1, .inr (.inl (va_cpy f g sp.toNatClampNeg dp.toNatClampNeg z.toNatClampNeg)))), S.2) H' → (∀ q ∈ locs', B ≤ q.base) → W p l e R s m args below meth c H' locs' cells slots Q (F0 m (pc + 3) lsA r)) :
    W p l e R s m args below meth c H locs cells slots Q (F0 m pc lsA (.int z :: .int dp :: .ref (X_ad b B a) :: .int sp :: .ref (X_ad b B a0) :: r)) := by
  obtain ⟨hx, hb, hr, hml, hown, hts, hlocks, hin, hK, hfr, hlo, hlaw⟩ := C
  have hd := X_chk_dec hc
  have hw : X_wd ax.2.1 (.methodLink (X_R (X_o j)) idx arraycopyName) = true ∧ 1 ≤ X_fr j ∧ 8 + (nativeFrameWords "java/lang/System" "arraycopy" 5 + 11) ≤ X_lo j := by
    unfold X_chk at hc
    simp only [Bool.and_eq_true, hax, if_true, decide_eq_true_eq] at hc
    obtain ⟨-, ⟨w1, w5⟩, w6⟩ := hc
    exact ⟨w1, w5, w6⟩
  obtain ⟨w1, w5, w6⟩ := hw
  have w2 := X_w_an
  have w3 := X_w_as
  have w4 := X_w_ai
  have ha0 : 0 < a := hR.pos h2 X_inl_ne
  have hc0 : H[X_ad b B a0]? = some (vp_cell (cA .long) (n0, .inr (.inl f))) := hR.at h1 X_inl_ne
  have hc1 : H[X_ad b B a]? = some (vp_cell (cA .long) (n1, .inr (.inl g))) := hR.at h2 X_inl_ne
  have nn : ∀ z : Int32, ¬ z < 0 → z.toInt = (z.toNatClampNeg : Int) := by
    intro z hz
    have hz0 : (0 : Int) ≤ z.toInt := by
      have := Int32.not_lt.mp hz
      simpa using Int32.le_iff_toInt_le.mp this
    show z.toInt = ((z.toInt.toNat : Nat) : Int)
    omega
  intro T hT X
  obtain ⟨-, k0, hk0, cm0, hkk0⟩ := (hK.2.1 .long (by decide)).1 n0 (fun j => .long (f j))
  obtain ⟨-, k1, hk1, cm1, hkk1⟩ := (hK.2.1 .long (by decide)).1 n1 (fun j => .long (g j))
  obtain ⟨vm', X', step⟩ := X.arraycopy hx hown (hts _ (X_wd_in w1)) (hts _ (X_wd_in w2)) (hts _ (X_wd_in w3)) (hts _ (X_wd_in w4)) (src := X_ad b B a0) (dst := X_ad b B a) (cs := vp_cell (cA .long) (n0, .inr (.inl f))) (cd := vp_cell (cA .long) (n1, .inr (.inl g))) (srcPos := sp) (destPos := dp) (n := z) (by rw [hT]; exact hc0) (by rw [hT]; exact hc1)
    (fun _ h => by cases h) (fun _ h => by cases h) (fun h => by cases h) (fun h => by cases h) hk0 hk1 hkk0 hkk1 (by simp [X_rty, refKind]) hs1 hs2 hs3
    (by rw [nn sp hs1, nn z hs3]; show ¬ _ > ((arrV (cA .long) n0 (fun j => .long (f j))).slots.size : Int); rw [arrV_size]; omega)
    (by rw [nn dp hs2, nn z hs3]; show ¬ _ > ((arrV (cA .long) n1 (fun j => .long (g j))).slots.size : Int); rw [arrV_size]; omega)
    (fun vm₁ _ i hi => by
      have e : (vp_cell (cA .long) (n0, .inr (.inl f))).slots.getD (sp.toNatClampNeg + i) .null = .long (f (sp.toNatClampNeg + i)) := by
        show (arrV (cA .long) n0 (fun j => .long (f j))).slots.getD _ _ = _
        rw [Array.getD_eq_getD_getElem?, arrV_read _ _ (by omega)]
        rfl
      refine ⟨?_, ?_⟩
      · rw [e]
        rfl
      · rw [e]
        exact trivial)
    (g := F0 m pc lsA (.int z :: .int dp :: .ref (X_ad b B a) :: .int sp :: .ref (X_ad b B a0) :: r)) rfl (by rw [hml]; exact hsz) (rest := r) rfl (by rw [hb]; exact hd) (Nat.le_trans w5 hfr) (by show 2 * 0 + _ + _ ≤ _; omega)
  have e1 : copied (vp_cell (cA .long) (n0, .inr (.inl f))) (vp_cell (cA .long) (n1, .inr (.inl g))) sp dp z = vp_cell (cA .long) (n1, .inr (.inl (va_cpy f g sp.toNatClampNeg dp.toNatClampNeg z.toNatClampNeg))) := va_copied (fun z => .long z) (cA .long) (cA .long) f g h4
  rw [e1] at X' step
  have hlt : X_ad b B a < H.size := (Array.getElem?_eq_some_iff.mp hc1).1
  have hheap : ((T.setVm vm').setCell (X_ad b B a) (vp_cell (cA .long) (n1, .inr (.inl (va_cpy f g sp.toNatClampNeg dp.toNatClampNeg z.toNatClampNeg))))).heap = H.setIfInBounds (X_ad b B a) (vp_cell (cA .long) (n1, .inr (.inl (va_cpy f g sp.toNatClampNeg dp.toNatClampNeg z.toNatClampNeg)))) := by rw [← hT]; rfl
  obtain ⟨t, a1, b1⟩ := k _ _ (hR.upd ha0 (hR.lt (by rw [h2]; exact X_inl_ne)) (by simp) (fun q hq => by simp [Array.getElem?_setIfInBounds, Ne.symm hq]) (show (H.setIfInBounds (X_ad b B a) (vp_cell (cA .long) (n1, .inr (.inl (va_cpy f g sp.toNatClampNeg dp.toNatClampNeg z.toNatClampNeg)))))[X_ad b B a]? = some _ by simp [Array.getElem?_setIfInBounds, hlt]; rfl))
    (fun q hq2 => by
      rcases List.mem_append.mp hq2 with h | h
      · exact hq q h
      · obtain ⟨z, -, hz⟩ := List.mem_map.mp h
        rw [← hz]
        exact X_ad_ge (b := b) (B := B) (by omega)) _ hheap X'
  exact ⟨t, step t a1, b1⟩
end X_ARR
