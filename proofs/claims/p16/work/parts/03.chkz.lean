theorem X_ckA : X_chkL 0 X_C = true := by
  unfold X_C
  rw [X_chkL_app, X_ck0, Bool.true_and]
  show X_chkL 17 _ = true
  rw [X_chkL_app, X_ck1, Bool.true_and]
  show X_chkL 30 _ = true
  rw [X_chkL_app, X_ck2, Bool.true_and]
  show X_chkL 37 _ = true
  rw [X_chkL_app, X_ck3, Bool.true_and]
  show X_chkL 43 _ = true
  rw [X_chkL_app, X_ck4, Bool.true_and]
  show X_chkL 47 _ = true
  rw [X_chkL_app, X_ck5, Bool.true_and]
  show X_chkL 57 _ = true
  rw [X_chkL_app, X_ck6, Bool.true_and]
  show X_chkL 69 _ = true
  rw [X_chkL_app, X_ck7, Bool.true_and]
  show X_chkL 77 _ = true
  rw [X_chkL_app, X_ck8, Bool.true_and]
  show X_chkL 84 _ = true
  rw [X_chkL_app, X_ck9, Bool.true_and]
  show X_chkL 96 _ = true
  rw [X_chkL_app, X_ck10, Bool.true_and]
  show X_chkL 108 _ = true
  rw [X_chkL_app, X_ck11, Bool.true_and]
  show X_chkL 118 _ = true
  rw [X_chkL_app, X_ck12, Bool.true_and]
  show X_chkL 131 _ = true
  rw [X_chkL_app, X_ck13, Bool.true_and]
  show X_chkL 141 _ = true
  rw [X_chkL_app, X_ck14, Bool.true_and]
  show X_chkL 143 _ = true
  rw [X_chkL_app, X_ck15, Bool.true_and]
  show X_chkL 155 _ = true
  rw [X_chkL_app, X_ck16, Bool.true_and]
  show X_chkL 158 _ = true
  rw [X_chkL_app, X_ck17, Bool.true_and]
  show X_chkL 161 _ = true
  rw [X_chkL_app, X_ck18, Bool.true_and]
  show X_chkL 162 _ = true
  rw [X_chkL_app, X_ck19, Bool.true_and]
  show X_chkL 168 _ = true
  rw [X_chkL_app, X_ck20, Bool.true_and]
  show X_chkL 175 _ = true
  rw [X_chkL_app, X_ck21, Bool.true_and]
  show X_chkL 178 _ = true
  rw [X_chkL_app, X_ck22, Bool.true_and]
  show X_chkL 181 _ = true
  rw [X_chkL_app, X_ck23, Bool.true_and]
  show X_chkL 187 _ = true
  rw [X_chkL_app, X_ck24, Bool.true_and]
  show X_chkL 189 _ = true
  rw [X_chkL_app, X_ck25, Bool.true_and]
  show X_chkL 193 _ = true
  rw [X_chkL_app, X_ck26, Bool.true_and]
  show X_chkL 198 _ = true
  rw [X_chkL_app, X_ck27, Bool.true_and]
  show X_chkL 203 _ = true
  exact X_ck28
theorem X_row_chk {j pc : Nat} {row : X_Row} (h : X_row j pc = some row) : row.1 = pc ∧ X_chk j row = true := by
  unfold X_row at h
  split at h
  · rename_i rows hr
    have h1 := X_chkL_get X_C 0 X_ckA j rows hr
    rw [Nat.zero_add] at h1
    exact ⟨by simpa using List.find?_some h, List.all_eq_true.mp h1 row (List.mem_of_find?_eq_some h)⟩
  · cases h
def X_pfok (o : Nat) (L : List (Nat × Nat × Nat × Nat)) : Prop := ∀ e ∈ L, X_pfw o e ∈ lw_tbl ∧ (e.2.2.2 = 0 → goodWord (X_pfw o e) = true) ∧ (e.2.2.2 ≠ 0 → X_isNest (X_pfw o e) = true)
theorem X_pfok_of {o : Nat} {L : List (Nat × Nat × Nat × Nat)} {ps : List Nat} (h : L.map (X_pfw o) = ps.filterMap (fun i => lw_tbl[i]?)) (hg : L.all (fun e => !decide (e.2.2.2 = 0) || goodWord (X_pfw o e)) = true) (hn : L.all (fun e => decide (e.2.2.2 = 0) || X_isNest (X_pfw o e)) = true) : X_pfok o L := by
  intro e he
  have h1 : X_pfw o e ∈ L.map (X_pfw o) := List.mem_map.mpr ⟨e, he, rfl⟩
  rw [h] at h1
  obtain ⟨i, -, hi⟩ := List.mem_filterMap.mp h1
  have h2 := List.all_eq_true.mp hg e he
  have h3 := List.all_eq_true.mp hn e he
  refine ⟨List.mem_of_getElem? hi, fun z => ?_, fun z => ?_⟩
  · simpa [z] using h2
  · simpa [z] using h3
def X_pmok (o : Nat) (L : List (Nat × Nat × Nat)) : Prop := ∀ e ∈ L, X_pmw o e ∈ lw_tbl ∧ (e.2.2 = 0 → goodWord (X_pmw o e) = true) ∧ (e.2.2 ≠ 0 → X_isNest (X_pmw o e) = true)
theorem X_pmok_of {o : Nat} {L : List (Nat × Nat × Nat)} {ps : List Nat} (h : L.map (X_pmw o) = ps.filterMap (fun i => lw_tbl[i]?)) (hg : L.all (fun e => !decide (e.2.2 = 0) || goodWord (X_pmw o e)) = true) (hn : L.all (fun e => decide (e.2.2 = 0) || X_isNest (X_pmw o e)) = true) : X_pmok o L := by
  intro e he
  have h1 : X_pmw o e ∈ L.map (X_pmw o) := List.mem_map.mpr ⟨e, he, rfl⟩
  rw [h] at h1
  obtain ⟨i, -, hi⟩ := List.mem_filterMap.mp h1
  have h2 := List.all_eq_true.mp hg e he
  have h3 := List.all_eq_true.mp hn e he
  refine ⟨List.mem_of_getElem? hi, fun z => ?_, fun z => ?_⟩
  · simpa [z] using h2
  · simpa [z] using h3
theorem X_PF_ok : ∀ o, X_pfok o (X_PFl o) := by
  intro o
  match o with
  | 0 => exact X_pfok_of X_PF0_w X_PF0_g X_PF0_n
  | 1 => exact X_pfok_of X_PF1_w X_PF1_g X_PF1_n
  | 2 => exact X_pfok_of X_PF2_w X_PF2_g X_PF2_n
  | 3 => exact X_pfok_of X_PF3_w X_PF3_g X_PF3_n
  | 4 => exact X_pfok_of X_PF4_w X_PF4_g X_PF4_n
  | 5 => exact X_pfok_of X_PF5_w X_PF5_g X_PF5_n
  | 6 => exact X_pfok_of X_PF6_w X_PF6_g X_PF6_n
  | 7 => exact X_pfok_of X_PF7_w X_PF7_g X_PF7_n
  | 8 => exact X_pfok_of X_PF8_w X_PF8_g X_PF8_n
  | 9 => exact X_pfok_of X_PF9_w X_PF9_g X_PF9_n
  | 10 => exact X_pfok_of X_PF10_w X_PF10_g X_PF10_n
  | 11 => exact X_pfok_of X_PF11_w X_PF11_g X_PF11_n
  | 12 => exact X_pfok_of X_PF12_w X_PF12_g X_PF12_n
  | o + 13 => intro e he; simp [X_PFl, X_PF] at he
theorem X_PM_ok : ∀ o, X_pmok o (X_PMl o) := by
  intro o
  match o with
  | 0 => exact X_pmok_of X_PM0_w X_PM0_g X_PM0_n
  | 1 => exact X_pmok_of X_PM1_w X_PM1_g X_PM1_n
  | 2 => exact X_pmok_of X_PM2_w X_PM2_g X_PM2_n
  | 3 => exact X_pmok_of X_PM3_w X_PM3_g X_PM3_n
  | 4 => exact X_pmok_of X_PM4_w X_PM4_g X_PM4_n
  | 5 => exact X_pmok_of X_PM5_w X_PM5_g X_PM5_n
  | 6 => exact X_pmok_of X_PM6_w X_PM6_g X_PM6_n
  | 7 => exact X_pmok_of X_PM7_w X_PM7_g X_PM7_n
  | 8 => exact X_pmok_of X_PM8_w X_PM8_g X_PM8_n
  | 9 => exact X_pmok_of X_PM9_w X_PM9_g X_PM9_n
  | 10 => exact X_pmok_of X_PM10_w X_PM10_g X_PM10_n
  | 11 => exact X_pmok_of X_PM11_w X_PM11_g X_PM11_n
  | 12 => exact X_pmok_of X_PM12_w X_PM12_g X_PM12_n
  | o + 13 => intro e he; simp [X_PMl, X_PM] at he
theorem X_w_oi : X_wd X_oi (.instanceMethod objectInit) = true := by decide +kernel
theorem X_w_oc : X_wd X_oc (.code objectInit ⟨#[0xb1]⟩ 1 none) = true := by decide +kernel
theorem X_w_an : X_wd X_an (.native arraycopyName) = true := by decide +kernel
theorem X_w_as : X_wd X_as (.static arraycopyName) = true := by decide +kernel
theorem X_w_ai : X_wd X_ai (.initialized "java/lang/System") = true := by decide +kernel
theorem X_w_ap : X_wd (X_ap.getD 0 0) (.arrayClass .int) = true ∧ X_wd (X_ap.getD 1 0) (.arrayClass .long) = true ∧ X_wd (X_ap.getD 2 0) (.arrayClass .byte) = true ∧ X_wd (X_ap.getD 3 0) (.arrayClass .boolean) = true := by decide +kernel
theorem X_w_ao : lw_tbl[X_ao]? = some (.arrayOver (.object RX8)) := by decide +kernel
