/-! facts of the tables; objects and new cells -/
set_option maxRecDepth 100000 in
theorem X_lay0 : u_ws RX0 TX0 8 = X_lp0.filterMap (fun i => lw_tbl[i]?) := by decide +kernel
theorem X_dcl0 : ∀ k, k < 8 → (TX0 k).1 = RX0 := by decide +kernel
theorem X_layg0 : (u_ws RX0 TX0 8).all goodWord = true := by decide +kernel
set_option maxRecDepth 100000 in
theorem X_lay1 : u_ws RX1 TX1 8 = X_lp1.filterMap (fun i => lw_tbl[i]?) := by decide +kernel
theorem X_dcl1 : ∀ k, k < 8 → (TX1 k).1 = RX1 := by decide +kernel
theorem X_layg1 : (u_ws RX1 TX1 8).all goodWord = true := by decide +kernel
set_option maxRecDepth 100000 in
theorem X_lay2 : u_ws RX2 TX2 13 = X_lp2.filterMap (fun i => lw_tbl[i]?) := by decide +kernel
theorem X_dcl2 : ∀ k, k < 13 → (TX2 k).1 = RX2 := by decide +kernel
theorem X_layg2 : (u_ws RX2 TX2 13).all goodWord = true := by decide +kernel
set_option maxRecDepth 100000 in
theorem X_lay3 : u_ws RX3 TX3 7 = X_lp3.filterMap (fun i => lw_tbl[i]?) := by decide +kernel
theorem X_dcl3 : ∀ k, k < 7 → (TX3 k).1 = RX3 := by decide +kernel
theorem X_layg3 : (u_ws RX3 TX3 7).all goodWord = true := by decide +kernel
set_option maxRecDepth 100000 in
theorem X_lay4 : u_ws RX4 TX4 4 = X_lp4.filterMap (fun i => lw_tbl[i]?) := by decide +kernel
theorem X_dcl4 : ∀ k, k < 4 → (TX4 k).1 = RX4 := by decide +kernel
theorem X_layg4 : (u_ws RX4 TX4 4).all goodWord = true := by decide +kernel
set_option maxRecDepth 100000 in
theorem X_lay5 : u_ws RX5 TX5 7 = X_lp5.filterMap (fun i => lw_tbl[i]?) := by decide +kernel
theorem X_dcl5 : ∀ k, k < 7 → (TX5 k).1 = RX5 := by decide +kernel
theorem X_layg5 : (u_ws RX5 TX5 7).all goodWord = true := by decide +kernel
set_option maxRecDepth 100000 in
theorem X_lay6 : u_ws RX6 TX6 3 = X_lp6.filterMap (fun i => lw_tbl[i]?) := by decide +kernel
theorem X_dcl6 : ∀ k, k < 3 → (TX6 k).1 = RX6 := by decide +kernel
theorem X_layg6 : (u_ws RX6 TX6 3).all goodWord = true := by decide +kernel
set_option maxRecDepth 100000 in
theorem X_lay7 : u_ws RX7 TX7 2 = X_lp7.filterMap (fun i => lw_tbl[i]?) := by decide +kernel
theorem X_dcl7 : ∀ k, k < 2 → (TX7 k).1 = RX7 := by decide +kernel
theorem X_layg7 : (u_ws RX7 TX7 2).all goodWord = true := by decide +kernel
set_option maxRecDepth 100000 in
theorem X_lay8 : u_ws RX8 TX8 15 = X_lp8.filterMap (fun i => lw_tbl[i]?) := by decide +kernel
theorem X_dcl8 : ∀ k, k < 15 → (TX8 k).1 = RX8 := by decide +kernel
theorem X_layg8 : (u_ws RX8 TX8 15).all goodWord = true := by decide +kernel
set_option maxRecDepth 100000 in
theorem X_lay9 : u_ws RX9 TX9 7 = X_lp9.filterMap (fun i => lw_tbl[i]?) := by decide +kernel
theorem X_dcl9 : ∀ k, k < 7 → (TX9 k).1 = RX9 := by decide +kernel
theorem X_layg9 : (u_ws RX9 TX9 7).all goodWord = true := by decide +kernel
set_option maxRecDepth 100000 in
theorem X_lay10 : u_ws RX10 TX10 9 = X_lp10.filterMap (fun i => lw_tbl[i]?) := by decide +kernel
theorem X_dcl10 : ∀ k, k < 9 → (TX10 k).1 = RX10 := by decide +kernel
theorem X_layg10 : (u_ws RX10 TX10 9).all goodWord = true := by decide +kernel
theorem X_lay_in {ws : List Cond} {ps : List Nat} (h : ws = ps.filterMap (fun i => lw_tbl[i]?)) (hg : ws.all goodWord = true) : ∀ w ∈ ws, w ∈ lw_g := by
  intro w hw
  have h1 := List.all_eq_true.mp hg w hw
  rw [h] at hw
  obtain ⟨i, -, hi⟩ := List.mem_filterMap.mp hw
  exact List.mem_filter.mpr ⟨List.mem_of_getElem? hi, h1⟩
/-- a class of the tables: its words, its types, its names -/
def X_clok (ci : Nat) (q : vw_C) : Prop := (∀ w ∈ u_ws q.1 q.2.1 q.2.2, w ∈ lw_g) ∧ (∀ k, k < q.2.2 → parseFieldDescriptor (q.2.1 k).2.2.1 = some (X_ty ci k)) ∧ (∀ a, a < q.2.2 → ∀ b, b < q.2.2 → a ≠ b → (q.2.1 a).2.1 ≠ (q.2.1 b).2.1) ∧ (∀ k, k < q.2.2 → (q.2.1 k).1 = q.1)
theorem X_clook : ∀ (ci : Nat) (q : vw_C), X_cl[ci]? = some q → X_clok ci q := by
  intro ci q h
  match ci, h with
  | 0, h => cases h; exact ⟨X_lay_in X_lay0 X_layg0, tyX0_ok, nmX0, X_dcl0⟩
  | 1, h => cases h; exact ⟨X_lay_in X_lay1 X_layg1, tyX1_ok, nmX1, X_dcl1⟩
  | 2, h => cases h; exact ⟨X_lay_in X_lay2 X_layg2, tyX2_ok, nmX2, X_dcl2⟩
  | 3, h => cases h; exact ⟨X_lay_in X_lay3 X_layg3, tyX3_ok, nmX3, X_dcl3⟩
  | 4, h => cases h; exact ⟨X_lay_in X_lay4 X_layg4, tyX4_ok, nmX4, X_dcl4⟩
  | 5, h => cases h; exact ⟨X_lay_in X_lay5 X_layg5, tyX5_ok, nmX5, X_dcl5⟩
  | 6, h => cases h; exact ⟨X_lay_in X_lay6 X_layg6, tyX6_ok, nmX6, X_dcl6⟩
  | 7, h => cases h; exact ⟨X_lay_in X_lay7 X_layg7, tyX7_ok, nmX7, X_dcl7⟩
  | 8, h => cases h; exact ⟨X_lay_in X_lay8 X_layg8, tyX8_ok, nmX8, X_dcl8⟩
  | 9, h => cases h; exact ⟨X_lay_in X_lay9 X_layg9, tyX9_ok, nmX9, X_dcl9⟩
  | 10, h => cases h; exact ⟨X_lay_in X_lay10 X_layg10, tyX10_ok, nmX10, X_dcl10⟩
  | ci + 11, h => simp [X_cl] at h
theorem X_nest_two : ∀ w ∈ X_nest, (∃ a i b n d h, w = .fieldLinkNest a i b n d h) ∨ ∃ a i x h, w = .methodLinkNest a i x h := by
  intro w hw
  have h1 := (List.mem_filter.mp hw).2
  unfold X_isNest at h1
  split at h1
  · exact Or.inl ⟨_, _, _, _, _, _, rfl⟩
  · exact Or.inr ⟨_, _, _, _, rfl⟩
  · cases h1
theorem X_K.warm {D : va_G} {cA : FieldType → ClassId} {s U : State} (hW : s.WarmedH U.vm) (h : X_K D cA s) : X_K D cA U := by
  obtain ⟨h1, h2, h3, h4⟩ := h
  refine ⟨fun c q hq => u_Kn_moved hW.alike (h1 c q hq), fun ty hty => ⟨arrOfT_moved hW.alike (h2 ty hty).1, (h2 ty hty).2.moved hW.alike⟩, fun w hw => ?_, h4.moved hW.alike⟩
  rcases X_nest_two w hw with ⟨a, i, b, n, d, hh, rfl⟩ | ⟨a, i, x, hh, rfl⟩
  · exact va_Nw.warmF hW (h3 _ hw)
  · exact va_Nw.warmM hW (h3 _ hw)
theorem X_K.same {D : va_G} {cA : FieldType → ClassId} {s U : State} (hv : s.vm = U.vm) (h : X_K D cA s) : X_K D cA U := by
  obtain ⟨h1, h2, h3, h4⟩ := h
  have hA : s.vm.Alike U.vm := by rw [hv]; exact Vm.Alike.refl _
  refine ⟨fun c q hq => u_Kn_moved hA (h1 c q hq), fun ty hty => ⟨arrOfT_moved hA (h2 ty hty).1, (h2 ty hty).2.moved hA⟩, fun w hw => ?_, h4.moved hA⟩
  rcases X_nest_two w hw with ⟨a, i, b, n, d, hh, rfl⟩ | ⟨a, i, x, hh, rfl⟩
  · exact va_Nw.same rfl hv (h3 _ hw)
  · exact va_Nw.same rfl hv (h3 _ hw)
theorem X_cvs_get {ad : Nat → Nat} {fs : List Value} {k : Nat} {v : Value} (h : fs[k]? = some v) : vp_V (X_cvs ad fs) k = X_cv ad v := by
  unfold X_cvs vp_V
  rw [List.getD_eq_getElem?_getD, List.getElem?_map, h]
  rfl
theorem X_in {i : Int32} {n : Nat} (h : ¬ (i < 0 ∨ n ≤ i.toNatClampNeg)) : i.toNatClampNeg < n := Nat.not_le.mp fun q => h (Or.inr q)
theorem X_ne99 {ci : Nat} {fs : List Value} (h : ci < 11) : (Sum.inr (ci, fs) : X_Cell) ≠ X_no := by
  intro e
  cases e
  omega
theorem X_clt {ci : Nat} {q : vw_C} (h : X_cl[ci]? = some q) : ci < 11 := (List.getElem?_eq_some_iff.mp h).1
/-- a field's word -/
theorem X_fw_spec {o idx : Nat} {ax : Nat × Nat × Nat} {q : vw_C} (h : X_fw o idx ax = true) (hq : X_cl[ax.1]? = some q) : ax.2.1 < q.2.2 ∧
    ((ax.2.2 % 2 = 0 ∧ Cond.fieldLink (X_R o) idx q.1 (q.2.1 ax.2.1).2.1 (q.2.1 ax.2.1).2.2.1 ∈ lw_g) ∨ (¬ ax.2.2 % 2 = 0 ∧ Cond.fieldLinkNest (X_R o) idx q.1 (q.2.1 ax.2.1).2.1 (q.2.1 ax.2.1).2.2.1 "MixfixBench" ∈ X_nest)) := by
  unfold X_fw at h
  rw [hq] at h
  simp only [Bool.and_eq_true, decide_eq_true_eq] at h
  refine ⟨h.1, ?_⟩
  obtain ⟨h1, h2, h3⟩ := X_PF_ok o _ (List.mem_of_getElem? h.2)
  by_cases e : ax.2.2 % 2 = 0
  · refine Or.inl ⟨e, ?_⟩
    have h4 := List.mem_filter.mpr ⟨h1, h2 e⟩
    simp only [X_pfw, hq, e, if_true] at h4
    exact h4
  · refine Or.inr ⟨e, ?_⟩
    have h4 := List.mem_filter.mpr ⟨h1, h3 e⟩
    simp only [X_pfw, hq, e, if_false] at h4
    exact h4
theorem X_fw_cl {o idx : Nat} {ax : Nat × Nat × Nat} (h : X_fw o idx ax = true) : ∃ q, X_cl[ax.1]? = some q := by
  unfold X_fw at h
  split at h
  · exact ⟨_, by assumption⟩
  · cases h
section X_HEAP
variable {p : Program} {l : Launch} {e : Env} {R : Room} {s : State} {m : MethodId} {args : Array Value} {below : List Frame} {meth : Method} {c : Code} {H : Heap} {locs : List Loc} {cells slots : Nat} {Q : State → Prop}
variable {scr : Cell} {D : va_G} {cA : FieldType → ClassId} {b B : Nat} {j : Nat} {lsA : Array Slot} {S : X_S}
theorem X_t_lc {a i : Nat} (h : ∀ q ∈ locs, B ≤ q.base) (ha : B ≤ a) : ∀ q ∈ locs ++ [(⟨a, i⟩ : Loc)], B ≤ q.base := by
  intro q hq
  rcases List.mem_append.mp hq with h1 | h1
  · exact h q h1
  · rw [List.mem_singleton] at h1
    subst h1
    exact ha
set_option maxHeartbeats 1000000 in
theorem X_getfield (C : X_Cx scr D cA p R s m args meth c j) {pc idx n ci : Nat} {ax : Nat × Nat × Nat} {q : Nat} {r fs : List Value} {v : Value} (hc : X_chk j (pc, (.getfield idx, n), ax) = true) (hR : X_Rl b B scr D cA S H)
    (h1 : S.1 q = .inr (ci, fs)) (h2 : ci = ax.1) (h3 : fs[ax.2.1]? = some v)
    (k : W p l e R s m args below meth c H locs cells slots Q (F0 m (pc + 3) lsA (X_cv (X_ad b B) v :: r))) : W p l e R s m args below meth c H locs cells slots Q (F0 m pc lsA (.ref (X_ad b B q) :: r)) := by
  obtain ⟨hx, hb, hr, hml, hown, hts, hlocks, hin, hK, hfr, hlo, hlaw⟩ := C
  have hd := X_chk_dec hc
  subst h2
  have hw : X_fw (X_o j) idx ax = true := by
    unfold X_chk at hc
    simp only [Bool.and_eq_true] at hc
    exact hc.2
  obtain ⟨qq, hqq⟩ := X_fw_cl hw
  obtain ⟨hk, hlink⟩ := X_fw_spec hw hqq
  obtain ⟨hlay, hty, hnm, hdc⟩ := X_clook _ _ hqq
  obtain ⟨rq, g1, cell, q1, q2, q3, q4⟩ := hR.at h1 (X_ne99 (X_clt hqq))
  have hrq : rq = qq := Option.some.inj (g1.symm.trans hqq)
  subst hrq
  obtain ⟨hS, hfc, kC, hkC, hkind⟩ := hK.1 _ _ hqq
  obtain ⟨cf, kf, fi, f, hi, hsl⟩ := hS _ hk
  have hst := (u_facts hfc hkC (u_lays hts hlay hk) hi).1
  have hi' : s.fieldFound? rq.1 (rq.2.1 ax.2.1).2.1 (rq.2.1 ax.2.1).2.2.1 = some (cf, kf, fi, f) := by rw [← hdc _ hk]; exact hi
  have hslot : cell.slots[f.slot]? = some (X_cv (X_ad b B) v) := by
    rw [hsl, q4 _ hk, X_cvs_get h3]
  rcases hlink with ⟨-, hlink⟩ | ⟨-, hlink⟩
  · exact W.getf hx hb hown (hts _ hlink) hi' hst q1 (by rw [q3]; exact fun h => by cases h) hslot rfl rfl hd k
  · exact va_Wgetf hx hb hown (va_Nw.use rfl (hK.2.2.1 _ hlink)) hi' hst q1 (by rw [q3]; exact fun h => by cases h) hslot rfl rfl hd k
set_option maxHeartbeats 1000000 in
theorem X_putfield (C : X_Cx scr D cA p R s m args meth c j) {pc idx n ci : Nat} {ax : Nat × Nat × Nat} {q : Nat} {r fs : List Value} {v : Value} (hc : X_chk j (pc, (.putfield idx, n), ax) = true) (hR : X_Rl b B scr D cA S H) (hq : ∀ q ∈ locs, B ≤ q.base)
    (h1 : S.1 q = .inr (ci, fs)) (h2 : ci = ax.1) (h3 : ax.2.1 < fs.length) (h4 : X_fit (X_ty ax.1 ax.2.1) v = true)
    (k : ∀ H' locs', X_Rl b B scr D cA (X_upd S.1 q (.inr (ci, fs.set ax.2.1 v)), S.2) H' → (∀ q ∈ locs', B ≤ q.base) → W p l e R s m args below meth c H' locs' cells slots Q (F0 m (pc + 3) lsA r)) : W p l e R s m args below meth c H locs cells slots Q (F0 m pc lsA (X_cv (X_ad b B) v :: .ref (X_ad b B q) :: r)) := by
  obtain ⟨hx, hb, hr, hml, hown, hts, hlocks, hin, hK, hfr, hlo, hlaw⟩ := C
  have hd := X_chk_dec hc
  subst h2
  have hw : X_fw (X_o j) idx ax = true ∧ X_fp j (X_o j) ax = true := by
    unfold X_chk at hc
    simp only [Bool.and_eq_true] at hc
    exact hc.2
  obtain ⟨hw, hfp⟩ := hw
  obtain ⟨qq, hqq⟩ := X_fw_cl hw
  obtain ⟨hk, hlink⟩ := X_fw_spec hw hqq
  obtain ⟨hlay, hty, hnm, hdc⟩ := X_clook _ _ hqq
  have hq0 := hR.pos h1 (X_ne99 (X_clt hqq))
  have hlt := hR.lt (q := q) (by rw [h1]; exact X_ne99 (X_clt hqq))
  have hap : ∀ x y, x < qq.2.2 → y < qq.2.2 → x ≠ y → (D.2 ax.1) x ≠ (D.2 ax.1) y := va_apart (own := X_R (X_o j)) (cl := X_cl) (tys := []) (C := qq.1) (T := qq.2.1) (N := qq.2.2) hts hlay (X_ty ax.1) hty hnm ⟨hK.1, fun k q h => by simp at h⟩ hqq
  obtain ⟨rq, g1, cell, q1, q2, q3, q4⟩ := hR.at h1 (X_ne99 (X_clt hqq))
  have hrq : rq = qq := Option.some.inj (g1.symm.trans hqq)
  subst hrq
  obtain ⟨hS, hfc, kC, hkC, hkind⟩ := hK.1 _ _ hqq
  obtain ⟨cf, kf, fi, f, hi, hsl⟩ := hS _ hk
  have hst := (u_facts hfc hkC (u_lays hts hlay hk) hi).1
  have hi' : s.fieldFound? rq.1 (rq.2.1 ax.2.1).2.1 (rq.2.1 ax.2.1).2.2.1 = some (cf, kf, fi, f) := by rw [← hdc _ hk]; exact hi
  obtain ⟨hn, hfit⟩ := X_fit_ok (X_ad b B) h4
  have fin : ∀ (H' : Heap) (i : Nat), H'[X_ad b B q]? = some (cell.setSlot f.slot (X_cv (X_ad b B) v)) → H'.size = H.size → (∀ r, r ≠ X_ad b B q → H'[r]? = H[r]?) → W p l e R s m args below meth c H' (locs ++ [⟨X_ad b B q, i⟩]) cells slots Q (F0 m (pc + 3) lsA r) := by
    intro H' i e1 e2 e3
    rw [hsl] at e1
    refine k H' _ (hR.upd hq0 hlt e2 e3 ?_) (X_t_lc hq (X_ad_ge (by omega)))
    refine ⟨rq, g1, t_OB.to (V := updV (vp_V (X_cvs (X_ad b B) fs)) ax.2.1 (X_cv (X_ad b B) v)) ⟨_, e1, q2, q3, t_set q4 hap hk _⟩ (fun i _ => ?_)⟩
    show _ = vp_V (X_cvs (X_ad b B) (fs.set ax.2.1 v)) i
    rw [vp_updV_set (by unfold X_cvs; rw [List.length_map]; exact h3)]
    unfold X_cvs
    rw [List.map_set]
  have hlay1 := hts _ (hlay _ (u_in_lay hk))
  unfold u_lay at hlay1
  by_cases hf : (rq.2.1 ax.2.1).2.2.2 = true
  · unfold X_fp at hfp
    rw [hqq] at hfp
    simp only [hf, if_true, Bool.and_eq_true, decide_eq_true_eq] at hfp
    obtain ⟨⟨hev, hini⟩, hdecl⟩ := hfp
    rcases hlink with ⟨-, hlink⟩ | ⟨hodd, -⟩
    · rw [if_pos hf] at hlay1
      have hcf : m.cls = cf := by
        obtain ⟨_, _, c', _, _, _, -, -, hf', -, -, -, hown2, -⟩ := Cond.laysFinal_spec hlay1
        have e1 : c' = cf := by have := hi.symm.trans hf'; simp at this; exact this.1.symm
        rw [hdecl] at hown2
        rw [← e1]; exact Option.some.inj (hown.symm.trans hown2)
      have h6 := u_fits hfc hkC hkind (Or.inr hlay1) hi (hty _ hk) hn hfit
      exact W.putFinK hx hb hown (hts _ hlink) hi' hst hcf (hin hini) (by rw [q2]; exact h6) q1 q3 (by rw [hsl]; exact k2_hasslot (q4 _ hk)) rfl rfl hd (fun H' e1 e2 e3 => fin H' _ e1 e2 e3)
    · exact absurd hev hodd
  · rw [if_neg hf] at hlay1
    have h6 := u_store hfc hkC hkind hlay1 hi (hty _ hk) hn hfit
    rcases hlink with ⟨-, hlink⟩ | ⟨-, hlink⟩
    · exact W.putK hx hb (f := f) ⟨hown, hts _ hlink, ⟨_, _, _, hi'⟩, hst⟩ (by rw [q2]; exact h6) q1 q3 (by rw [hsl]; exact k2_hasslot (q4 _ hk)) rfl rfl hd (fun H' e1 e2 e3 => fin H' _ e1 e2 e3)
    · exact va_WputK hx hb (f := f) hown (va_Nw.use rfl (hK.2.2.1 _ hlink)) hi' hst (by rw [q2]; exact h6) q1 q3 (by rw [hsl]; exact k2_hasslot (q4 _ hk)) rfl rfl hd (fun H' e1 e2 e3 => fin H' _ e1 e2 e3)
set_option maxHeartbeats 1000000 in
theorem X_new (C : X_Cx scr D cA p R s m args meth c j) {pc idx n : Nat} {ax : Nat × Nat × Nat} {r fs : List Value} (hc : X_chk j (pc, (.new idx, n), ax) = true) (hR : X_Rl b B scr D cA S H)
    (h1 : X_df[ax.1]? = some fs) (hcells : cells + 1 ≤ R.cells) (hslots : slots + fs.length ≤ R.slots)
    (k : ∀ H', X_Rl b B scr D cA (X_upd S.1 S.2.1 (.inr (ax.1, fs)), S.2.1 + 1, S.2.2 + fs.length) H' → W p l e R s m args below meth c H' locs (cells + 1) (slots + fs.length) Q (F0 m (pc + 3) lsA (.ref (X_ad b B S.2.1) :: r))) : W p l e R s m args below meth c H locs cells slots Q (F0 m pc lsA r) := by
  obtain ⟨hx, hb, hr, hml, hown, hts, hlocks, hin, hK, hfr, hlo, hlaw⟩ := C
  have hd := X_chk_dec hc
  have hw : ∃ q kk, X_cl[ax.1]? = some q ∧ X_wd ax.2.1 (.classLink (X_R (X_o j)) idx q.1) = true ∧ X_wd kk.1 (.instantiable q.1 q.2.2) = true ∧ X_wd kk.2 (.initialized q.1) = true ∧ fs = (List.range q.2.2).map (fun k => defaultValue (X_ty ax.1 k)) ∧ (kk : Nat × Nat) = kk := by
    unfold X_chk at hc
    simp only [Bool.and_eq_true] at hc
    have h := hc.2
    rw [h1] at h
    split at h
    · rename_i q kk fs' e1 e2 e3
      cases e3
      simp only [Bool.and_eq_true, decide_eq_true_eq] at h
      exact ⟨q, kk, e1, h.1.1.1, h.1.1.2, h.1.2, h.2, rfl⟩
    · cases h
  obtain ⟨qq, kk, hqq, w1, w2, w3, hfs, -⟩ := hw
  obtain ⟨hlay, hty, hnm, hdc⟩ := X_clook _ _ hqq
  have hlen : fs.length = qq.2.2 := by rw [hfs, List.length_map, List.length_range]
  have hKn := hK.1 _ _ hqq
  rw [hlen] at hslots
  refine W.newcK hx hb hown (hts _ (X_wd_in w1)) (hts _ (X_wd_in w2)) (hts _ (X_wd_in w3)) rfl hd hcells hslots hKn.2.1 rfl fun H1 kC hkC e1 z1 o1 => ?_
  have hk := k H1 (hR.push z1 o1 ⟨qq, hqq, (u_born (X_ty ax.1) hts hlay hKn hkC e1 hty).to (fun i hi => ?_)⟩)
  · rw [hlen, ← hR.2.1] at hk
    exact hk
  · rw [X_cvs_get (v := defaultValue (X_ty ax.1 i)) (by rw [hfs, List.getElem?_map, List.getElem?_range hi]; rfl)]
    cases X_ty ax.1 i <;> rfl
theorem X_kArr (hK : X_K D cA s) {ty : FieldType} (h : ty ∈ X_tys) : ArrOfT s (cA ty) (X_rty ty) := (hK.2.1 ty h).1
set_option maxHeartbeats 1000000 in
theorem X_newarr (C : X_Cx scr D cA p R s m args meth c j) {pc n : Nat} {at_ : Jvm.ClassFile.ArrayType} {ax : Nat × Nat × Nat} {z : Int32} {r : List Value} {cc : X_Cell} (hc : X_chk j (pc, (.newarray at_, n), ax) = true) (hR : X_Rl b B scr D cA S H)
    (h0 : ¬ (z < 0 ∨ 67108864 < z.toNatClampNeg)) (h1 : X_blank at_ z.toNatClampNeg = some cc) (hcells : cells + 1 ≤ R.cells) (hslots : slots + z.toNatClampNeg ≤ R.slots)
    (k : ∀ H', X_Rl b B scr D cA (X_upd S.1 S.2.1 cc, S.2.1 + 1, S.2.2 + z.toNatClampNeg) H' → W p l e R s m args below meth c H' locs (cells + 1) (slots + z.toNatClampNeg) Q (F0 m (pc + 2) lsA (.ref (X_ad b B S.2.1) :: r))) : W p l e R s m args below meth c H locs cells slots Q (F0 m pc lsA (.int z :: r)) := by
  obtain ⟨hx, hb, hr, hml, hown, hts, hlocks, hin, hK, hfr, hlo, hlaw⟩ := C
  have hd := X_chk_dec hc
  have hw : Cond.arrayClass (newarray.typeOf at_) ∈ lw_g := by
    obtain ⟨w1, w2, w3⟩ := X_w_ap
    cases at_ <;> simp only [X_blank] at h1 <;> first
      | (cases h1; done)
      | exact X_wd_in w1
      | exact X_wd_in w2
      | exact X_wd_in w3
  have hbytes : z.toNatClampNeg * componentBytes (newarray.typeOf at_) ≤ 536870912 := by
    have h8 : componentBytes (newarray.typeOf at_) ≤ 8 := by cases at_ <;> decide
    have h9 : z.toNatClampNeg ≤ 67108864 := Nat.le_of_not_lt fun q => h0 (Or.inr q)
    exact Nat.le_trans (Nat.mul_le_mul h9 h8) (by decide)
  refine va_newaK hx hb (hts _ hw) rfl hd rfl (fun q => h0 (Or.inl q)) rfl hbytes hcells hslots rfl fun H1 cA' e1 z1 o1 hAr hNm => ?_
  rw [show H.size = X_ad b B S.2.1 from hR.2.1]
  refine k H1 (hR.push z1 o1 ?_)
  cases at_ <;> simp only [X_blank] at h1 <;> cases h1
  · have e := (hK.2.1 .byte (by decide)).2
    have : cA' = cA .byte := Option.some.inj (hNm.symm.trans e)
    subst this
    exact e1
  · have e := (hK.2.1 .int (by decide)).2
    have : cA' = cA .int := Option.some.inj (hNm.symm.trans e)
    subst this
    exact e1
  · have e := (hK.2.1 .long (by decide)).2
    have : cA' = cA .long := Option.some.inj (hNm.symm.trans e)
    subst this
    exact e1
set_option maxHeartbeats 1000000 in
theorem X_anewarr (C : X_Cx scr D cA p R s m args meth c j) {pc n idx : Nat} {ax : Nat × Nat × Nat} {z : Int32} {r : List Value} (hc : X_chk j (pc, (.anewarray idx, n), ax) = true) (hR : X_Rl b B scr D cA S H)
    (h0 : ¬ (z < 0 ∨ 67108864 < z.toNatClampNeg)) (hcells : cells + 1 ≤ R.cells) (hslots : slots + z.toNatClampNeg ≤ R.slots)
    (k : ∀ H', X_Rl b B scr D cA (X_upd S.1 S.2.1 (.inl (.short, z.toNatClampNeg, .inr (.inr (.inr (.inr fun _ => none))))), S.2.1 + 1, S.2.2 + z.toNatClampNeg) H' → W p l e R s m args below meth c H' locs (cells + 1) (slots + z.toNatClampNeg) Q (F0 m (pc + 3) lsA (.ref (X_ad b B S.2.1) :: r))) : W p l e R s m args below meth c H locs cells slots Q (F0 m pc lsA (.int z :: r)) := by
  obtain ⟨hx, hb, hr, hml, hown, hts, hlocks, hin, hK, hfr, hlo, hlaw⟩ := C
  have hd := X_chk_dec hc
  have hw : X_wd ax.1 (.classLink (X_R (X_o j)) idx RX8) = true := by
    unfold X_chk at hc
    simp only [Bool.and_eq_true] at hc
    exact hc.2
  have hbytes : z.toNatClampNeg * 4 ≤ 536870912 := by
    have h9 : z.toNatClampNeg ≤ 67108864 := Nat.le_of_not_lt fun q => h0 (Or.inr q)
    omega
  refine W.anew hx hb hown (hts _ (X_wd_in hw)) (va_AO.use hK.2.2.2) rfl hd rfl (fun q => h0 (Or.inl q)) hbytes hcells hslots fun cA' kA comp f1 f2 f3 f4 => ?_
  generalize hH1 : H.push ({ cls := cA', slots := Array.replicate z.toNatClampNeg .null, vm := .none } : Cell) = H1
  have z1 : H1.size = H.size + 1 := by rw [← hH1, Array.size_push]
  have e1 : H1[H.size]? = some (arrV cA' z.toNatClampNeg (fun _ => .null)) := by rw [← hH1, Array.getElem?_push_size, ← arrV_new]
  have o1 : ∀ q : Nat, q < H.size → H1[q]? = H[q]? := fun q hq => by rw [← hH1, Array.getElem?_push, if_neg (Nat.ne_of_lt hq)]
  rw [show H.size = X_ad b B S.2.1 from hR.2.1]
  refine k H1 (hR.push z1 o1 ?_)
  obtain ⟨kA2, comp2, -, -, -, k4⟩ := (hK.2.1 .short (by decide)).2
  have : cA' = cA .short := Option.some.inj (f1.symm.trans k4)
  subst this
  exact e1
end X_HEAP
