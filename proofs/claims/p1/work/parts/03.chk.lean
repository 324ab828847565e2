abbrev X_Row : Type := Nat × (Jvm.ClassFile.Instr × Nat) × (Nat × Nat × Nat)
def X_row (j pc : Nat) : Option X_Row := match X_C[j]? with
  | some rows => rows.find? (fun r => r.1 == pc)
  | none => none
/-! what can be told of each row ahead: it is what the bytes decode to, and the words that it needs stand in the tables -/
def X_o (j : Nat) : Nat := match X_J[j]? with
  | some q => q.1
  | none => 99
def X_y (j : Nat) : MethodName := match X_J[j]? with
  | some q => q.2.1
  | none => x
def X_b (j : Nat) : ByteArray := match X_J[j]? with
  | some q => q.2.2.1
  | none => code
def X_fr (j : Nat) : Nat := match X_J[j]? with
  | some q => q.2.2.2.1
  | none => 0
def X_lo (j : Nat) : Nat := match X_J[j]? with
  | some q => q.2.2.2.2.1
  | none => 0
def X_pl (j : Nat) : Nat × Nat × Nat × Nat := match X_J[j]? with
  | some q => q.2.2.2.2.2
  | none => (0, 0, 0, 0)
def X_init (j : Nat) : Bool := decide ((X_y j).name = "<init>")
def X_wd (p : Nat) (w : Cond) : Bool := decide (lw_tbl[p]? = some w) && goodWord w
def X_nw (p : Nat) (w : Cond) : Bool := decide (X_nest[p]? = some w)
def X_ln (i : Jvm.ClassFile.Instr) (n : Nat) : Nat := match i with
  | .bipush _ | .ldc _ | .iload _ | .lload _ | .aload _ | .istore _ | .lstore _ | .astore _ | .newarray _ => 2
  | .sipush _ | .ldc2_w _ | .iinc _ _ | .ifCond _ _ | .if_icmp _ _ | .goto _ | .getfield _ | .putfield _ | .new _ | .anewarray _ | .invokevirtual _ | .invokespecial _ | .invokestatic _ => 3
  | .tableswitch _ _ _ _ | .lookupswitch _ _ => n
  | _ => 1
def X_fw (o idx : Nat) (ax : Nat × Nat × Nat) : Bool := match X_cl[ax.1]? with
  | some q => decide (ax.2.1 < q.2.2) && (if ax.2.2 % 2 = 0 then X_wd (ax.2.2 / 2) (.fieldLink (X_R o) idx q.1 (q.2.1 ax.2.1).2.1 (q.2.1 ax.2.1).2.2.1)
      else X_nw (ax.2.2 / 2) (.fieldLinkNest (X_R o) idx q.1 (q.2.1 ax.2.1).2.1 (q.2.1 ax.2.1).2.2.1 "MixfixBench"))
  | none => false
def X_fp (j o : Nat) (ax : Nat × Nat × Nat) : Bool := match X_cl[ax.1]? with
  | some q => if (q.2.1 ax.2.1).2.2.2 = true then decide (ax.2.2 % 2 = 0) && X_init j && decide ((q.2.1 ax.2.1).1 = X_R o) else true
  | none => false
def X_cw (j o idx : Nat) (ax : Nat × Nat × Nat) : Bool :=
  X_wd (X_pl ax.1).1 (.code (X_y ax.1) (X_b ax.1) (X_nL ax.1) (X_rt ax.1)) && X_wd (X_pl ax.1).2.1 (.initialized (X_y ax.1).cls)
  && decide ((X_y ax.1).cls ≠ "java/lang/invoke/MethodHandle") && decide ((X_y ax.1).cls ≠ "java/lang/invoke/VarHandle")
  && decide ((parseMethodDescriptor (X_y ax.1).desc).map (fun d => d.parameters.length) = some (X_na ax.1))
  && decide (X_fr ax.1 + 1 ≤ X_fr j) && decide (8 + (X_nL ax.1 + 11) + X_lo ax.1 ≤ X_lo j) && decide (ax.1 < X_lawj) && plainName (X_y ax.1).cls && decide (X_R (X_o ax.1) = (X_y ax.1).cls)
  && (if ax.2.1 % 2 = 0 then X_wd (ax.2.1 / 2) (.methodLink (X_R o) idx (X_y ax.1)) else X_nw (ax.2.1 / 2) (.methodLinkNest (X_R o) idx (X_y ax.1) "MixfixBench"))
def X_chk (j : Nat) (row : X_Row) : Bool := decide (decode (X_b j) row.1 = .ok (row.2.1.1, X_ln row.2.1.1 row.2.1.2)) && (match row.2.1.1 with
  | .ldc idx => X_wd row.2.2.2.1 (.constant (X_R (X_o j)) idx (Int32.ofNat row.2.2.1))
  | .ldc2_w idx => X_wd row.2.2.2.1 (.constantLong (X_R (X_o j)) idx (Int64.ofNat row.2.2.1))
  | .getfield idx => X_fw (X_o j) idx row.2.2
  | .putfield idx => X_fw (X_o j) idx row.2.2 && X_fp j (X_o j) row.2.2
  | .new idx => (match X_cl[row.2.2.1]?, X_K2[row.2.2.1]?, X_df[row.2.2.1]? with
    | some q, some k, some fs => X_wd row.2.2.2.1 (.classLink (X_R (X_o j)) idx q.1) && X_wd k.1 (.instantiable q.1 q.2.2) && X_wd k.2 (.initialized q.1) && decide (fs = (List.range q.2.2).map (fun k => defaultValue (X_ty row.2.2.1 k)))
    | _, _, _ => false)
  | .newarray at_ => X_wd row.2.2.1 (.arrayClass (newarray.typeOf at_))
  | .anewarray idx => X_wd row.2.2.1 (.classLink (X_R (X_o j)) idx RX8)
  | .iaload | .arraylength => decide (row.2.2.1 = 0) || decide (j = X_lawj)
  | .lookupswitch _ ps => (ps.toList.zip (ps.toList.drop 1)).all (fun (a, next) => a.1 < next.1)
  | .invokevirtual idx => X_cw j (X_o j) idx row.2.2 && X_wd (X_pl row.2.2.1).2.2.1 (.instanceMethod (X_y row.2.2.1)) && X_wd (X_pl row.2.2.1).2.2.2 (.selects (X_y row.2.2.1).cls (X_y row.2.2.1) (X_y row.2.2.1))
      && (match X_cl[X_ci row.2.2.1]? with
        | some q => decide ((X_y row.2.2.1).cls = q.1)
        | none => false)
  | .invokespecial idx => if row.2.2.1 = 9999 then X_wd (row.2.2.2.1 / 2) (.methodLink (X_R (X_o j)) idx objectInit) && X_wd X_oi (.instanceMethod objectInit) && X_wd X_oc (.code objectInit ⟨#[0xb1]⟩ 1 none) && decide (1 ≤ X_fr j) && decide (20 ≤ X_lo j)
      else X_cw j (X_o j) idx row.2.2 && X_wd (X_pl row.2.2.1).2.2.1 (.instanceMethod (X_y row.2.2.1)) && X_init row.2.2.1 && decide (X_rt row.2.2.1 = none)
  | .invokestatic idx => if row.2.2.1 = 9998 then X_wd (row.2.2.2.1 / 2) (.methodLink (X_R (X_o j)) idx arraycopyName) && X_wd X_an (.native arraycopyName) && X_wd X_as (.static arraycopyName) && X_wd X_ai (.initialized "java/lang/System") && decide (1 ≤ X_fr j) && decide (8 + (nativeFrameWords "java/lang/System" "arraycopy" 5 + 11) ≤ X_lo j)
      else X_cw j (X_o j) idx row.2.2 && X_wd (X_pl row.2.2.1).2.2.1 (.static (X_y row.2.2.1))
  | _ => true)
def X_chkL : Nat → List (List X_Row) → Bool
  | _, [] => true
  | j, r :: t => r.all (X_chk j) && X_chkL (j + 1) t
theorem X_chkL_app (a b : List (List X_Row)) : ∀ j, X_chkL j (a ++ b) = (X_chkL j a && X_chkL (j + a.length) b) := by
  induction a with
  | nil => intro j; simp [X_chkL]
  | cons r t ih =>
    intro j
    simp only [List.cons_append, X_chkL, ih (j + 1), List.length_cons, Bool.and_assoc]
    congr 2
    congr 1
    omega
theorem X_chkL_get (a : List (List X_Row)) : ∀ j, X_chkL j a = true → ∀ (k : Nat) (rows : List X_Row), a[k]? = some rows → rows.all (X_chk (j + k)) = true := by
  induction a with
  | nil => intro j _ k rows h; simp at h
  | cons r t ih =>
    intro j h k rows hk
    simp only [X_chkL, Bool.and_eq_true] at h
    cases k with
    | zero => simp at hk; subst hk; exact h.1
    | succ k =>
      have h2 := ih (j + 1) h.2 k rows (by simpa using hk)
      rwa [show j + 1 + k = j + (k + 1) by omega] at h2
