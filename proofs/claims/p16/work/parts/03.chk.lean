abbrev X_Row : Type := Nat × (Jvm.ClassFile.Instr × Nat) × (Nat × Nat × Nat)
def X_row (j pc : Nat) : Option X_Row := match X_C[j]? with
  | some rows => rows.find? (fun r => r.1 == pc)
  | none => none
/-! what can be told of each row ahead: it is what the bytes decode to, and the words that it needs stand in the tables -/
def X_o (j : Nat) : Nat := match X_J[j]? with
  | some q => q.1
  | none => 99
def X_y (j : Nat) : MethodName := match X_J[j]? with
  | some q => q.2.1
  | none => x
def X_cp (j : Nat) : Nat := match X_J[j]? with
  | some q => q.2.2.1
  | none => 0
/-- a method's bytes, as its word in the tables has them -/
def X_b (j : Nat) : ByteArray := if j = X_lawj then code else match lw_tbl[X_cp j]? with
  | some (.code _ b _ _) => b
  | _ => code
def X_fr (j : Nat) : Nat := match X_J[j]? with
  | some q => q.2.2.2.1
  | none => 0
def X_lo (j : Nat) : Nat := match X_J[j]? with
  | some q => q.2.2.2.2.1
  | none => 0
def X_pl (j : Nat) : Nat × Nat × Nat := match X_J[j]? with
  | some q => q.2.2.2.2.2
  | none => (0, 0, 0)
def X_init (j : Nat) : Bool := decide ((X_y j).name = "<init>")
def X_wd (p : Nat) (w : Cond) : Bool := decide (lw_tbl[p]? = some w) && goodWord w
def X_ln (i : Jvm.ClassFile.Instr) (n : Nat) : Nat := match i with
  | .bipush _ | .ldc _ | .iload _ | .lload _ | .aload _ | .istore _ | .lstore _ | .astore _ | .newarray _ => 2
  | .sipush _ | .ldc2_w _ | .iinc _ _ | .ifCond _ _ | .if_icmp _ _ | .goto _ | .getfield _ | .putfield _ | .new _ | .anewarray _ | .invokevirtual _ | .invokespecial _ | .invokestatic _ => 3
  | .tableswitch _ _ _ _ | .lookupswitch _ _ => n
  | _ => 1
/-- a field's word by its entry: index in the pool, class, field, nest mate or not -/
def X_pfw (o : Nat) (e : Nat × Nat × Nat × Nat) : Cond := match X_cl[e.2.1]? with
  | some q => if e.2.2.2 = 0 then .fieldLink (X_R o) e.1 q.1 (q.2.1 e.2.2.1).2.1 (q.2.1 e.2.2.1).2.2.1 else .fieldLinkNest (X_R o) e.1 q.1 (q.2.1 e.2.2.1).2.1 (q.2.1 e.2.2.1).2.2.1 "MixfixBench"
  | none => .tt
/-- a method's word by its entry: index in the pool, method, nest mate or not -/
def X_pmw (o : Nat) (e : Nat × Nat × Nat) : Cond := if e.2.2 = 0 then .methodLink (X_R o) e.1 (X_y e.2.1) else .methodLinkNest (X_R o) e.1 (X_y e.2.1) "MixfixBench"
def X_isNest (w : Cond) : Bool := match w with
  | .fieldLinkNest _ _ _ _ _ _ => true
  | .methodLinkNest _ _ _ _ => true
  | _ => false
def X_nest : List Cond := lw_tbl.filter X_isNest
def X_PFl (o : Nat) : List (Nat × Nat × Nat × Nat) := X_PF.getD o []
def X_PMl (o : Nat) : List (Nat × Nat × Nat) := X_PM.getD o []
def X_kd (k : Nat) : Nat := X_KD.getD k 9
def X_fw (o idx : Nat) (ax : Nat × Nat × Nat) : Bool := match X_cl[ax.1]? with
  | some q => decide (ax.2.1 < q.2.2) && decide ((X_PFl o)[ax.2.2 / 2]? = some (idx, ax.1, ax.2.1, ax.2.2 % 2))
  | none => false
def X_fp (j o : Nat) (ax : Nat × Nat × Nat) : Bool := match X_cl[ax.1]? with
  | some q => if (q.2.1 ax.2.1).2.2.2 = true then decide (ax.2.2 % 2 = 0) && X_init j && decide ((q.2.1 ax.2.1).1 = X_R o) else true
  | none => false
/-- what can be told of a method that is called -/
def X_mok (k : Nat) : Bool :=
  (match lw_tbl[X_cp k]? with
    | some (.code y _ n r) => decide (y = X_y k) && decide (n = X_nL k) && decide (r = X_rt k) && decide (k ≠ X_lawj)
    | _ => false) && X_wd (X_pl k).1 (.initialized (X_y k).cls)
  && decide ((X_y k).cls ≠ "java/lang/invoke/MethodHandle") && decide ((X_y k).cls ≠ "java/lang/invoke/VarHandle")
  && decide ((parseMethodDescriptor (X_y k).desc).map (fun d => d.parameters.length) = some (X_na k))
  && plainName (X_y k).cls && decide (X_R (X_o k) = (X_y k).cls)
  && (match X_kd k with
    | 0 => X_wd (X_pl k).2.1 (.instanceMethod (X_y k)) && X_wd (X_pl k).2.2 (.selects (X_y k).cls (X_y k) (X_y k)) && (match X_cl[X_ci k]? with
        | some q => decide ((X_y k).cls = q.1)
        | none => false)
    | 1 => X_wd (X_pl k).2.1 (.static (X_y k))
    | _ => X_wd (X_pl k).2.1 (.instanceMethod (X_y k)) && X_init k && decide (X_rt k = none))
def X_mokL : Nat → Nat → Bool
  | 0, _ => true
  | n + 1, k => X_mok k && X_mokL n (k + 1)
theorem X_mokL_get : ∀ (n k j : Nat), X_mokL n k = true → k ≤ j → j < k + n → X_mok j = true := by
  intro n
  induction n with
  | zero => intro k j _ h1 h2; omega
  | succ n ih =>
    intro k j h h1 h2
    simp only [X_mokL, Bool.and_eq_true] at h
    rcases Nat.lt_or_eq_of_le h1 with h3 | h3
    · exact ih (k + 1) j h.2 h3 (by omega)
    · subst h3
      exact h.1
def X_cw (j o idx : Nat) (ax : Nat × Nat × Nat) : Bool :=
  decide (X_fr ax.1 + 1 ≤ X_fr j) && decide (8 + (X_nL ax.1 + 11) + X_lo ax.1 ≤ X_lo j) && decide (ax.1 < X_lawj) && decide ((X_PMl o)[ax.2.1 / 2]? = some (idx, ax.1, ax.2.1 % 2))
def X_chk (j : Nat) (row : X_Row) : Bool := decide (decode (X_b j) row.1 = .ok (row.2.1.1, X_ln row.2.1.1 row.2.1.2)) && (match row.2.1.1 with
  | .ldc idx => X_wd row.2.2.2.1 (.constant (X_R (X_o j)) idx (Int32.ofNat row.2.2.1))
  | .ldc2_w idx => X_wd row.2.2.2.1 (.constantLong (X_R (X_o j)) idx (Int64.ofNat row.2.2.1))
  | .getfield idx => X_fw (X_o j) idx row.2.2
  | .putfield idx => X_fw (X_o j) idx row.2.2 && X_fp j (X_o j) row.2.2
  | .new idx => (match X_cl[row.2.2.1]?, X_K2[row.2.2.1]?, X_df[row.2.2.1]? with
    | some q, some k, some fs => X_wd row.2.2.2.1 (.classLink (X_R (X_o j)) idx q.1) && X_wd k.1 (.instantiable q.1 q.2.2) && X_wd k.2 (.initialized q.1) && decide (fs = (List.range q.2.2).map (fun k => defaultValue (X_ty row.2.2.1 k)))
    | _, _, _ => false)
  | .newarray at_ => (match at_ with
    | .int | .long | .byte | .boolean => true
    | _ => false)
  | .anewarray idx => X_wd row.2.2.1 (.classLink (X_R (X_o j)) idx RX8)
  | .iaload | .arraylength => decide (row.2.2.1 = 0) || decide (j = X_lawj)
  | .lookupswitch _ ps => (ps.toList.zip (ps.toList.drop 1)).all (fun (a, next) => a.1 < next.1)
  | .invokevirtual idx => X_cw j (X_o j) idx row.2.2 && decide (X_kd row.2.2.1 = 0)
  | .invokespecial idx => if row.2.2.1 = 9999 then X_wd row.2.2.2.1 (.methodLink (X_R (X_o j)) idx objectInit) && decide (1 ≤ X_fr j) && decide (20 ≤ X_lo j)
      else X_cw j (X_o j) idx row.2.2 && decide (X_kd row.2.2.1 = 2)
  | .invokestatic idx => if row.2.2.1 = 9998 then X_wd row.2.2.2.1 (.methodLink (X_R (X_o j)) idx arraycopyName) && decide (1 ≤ X_fr j) && decide (8 + (nativeFrameWords "java/lang/System" "arraycopy" 5 + 11) ≤ X_lo j)
      else X_cw j (X_o j) idx row.2.2 && decide (X_kd row.2.2.1 = 1)
  | _ => true)
def X_chkL : Nat → List (List X_Row) → Bool
  | _, [] => true
  | j, r :: t => r.all (X_chk j) && X_chkL (j + 1) t
theorem X_chkL_app (a b : List (List X_Row)) : ∀ j, X_chkL j (a ++ b) = (X_chkL j a && X_chkL (j + a.length) b) := by
  induction a with
  | nil => intro j; simp [X_chkL]
  | cons r t ih =>
    intro j
    simp only [List.cons_append, X_chkL, ih (j + 1), List.length_cons, Bool.and_assoc]
    congr 2
    congr 1
    omega
theorem X_chkL_get (a : List (List X_Row)) : ∀ j, X_chkL j a = true → ∀ (k : Nat) (rows : List X_Row), a[k]? = some rows → rows.all (X_chk (j + k)) = true := by
  induction a with
  | nil => intro j _ k rows h; simp at h
  | cons r t ih =>
    intro j h k rows hk
    simp only [X_chkL, Bool.and_eq_true] at h
    cases k with
    | zero => simp at hk; subst hk; exact h.1
    | succ k =>
      have h2 := ih (j + 1) h.2 k rows (by simpa using hk)
      rwa [show j + 1 + k = j + (k + 1) by omega] at h2
