/-! THE MACHINE OF THIS PROOF: a small pure machine over a heap that is a function, run by rows that are decoded ahead; cell 0 is the script. -/
abbrev X_Cell : Type := (FieldType × vp_A) ⊕ (Nat × List Value)
abbrev X_Hp : Type := Nat → X_Cell
/-- the heap, how many cells, how many slots they have -/
abbrev X_S : Type := X_Hp × Nat × Nat
abbrev X_L : Type := List (Nat × Value)
abbrev X_F : Type := Nat × X_L × List Value × X_S
abbrev X_O : Type := X_F ⊕ ((Nat × List Value × X_F) ⊕ (Option Value × X_S))
abbrev X_no : X_Cell := .inr (99, [])
def X_upd (h : X_Hp) (q : Nat) (c : X_Cell) : X_Hp := fun k => if k = q then c else h k
def X_ld (ls : X_L) (i : Nat) : Option Value := match ls with
  | [] => none
  | q :: r => if q.1 = i then some q.2 else X_ld r i
def X_s1 (ls : X_L) (i : Nat) (v : Value) : X_L := (i, v) :: ls.filter (fun q => !(q.1 == i) && !(q.1 + 1 == i && q.2.category == 2))
def X_s2 (ls : X_L) (i : Nat) (v : Value) : X_L := (i, v) :: ls.filter (fun q => !(q.1 == i) && (!(q.1 == i + 1) && !(q.1 + 1 == i && q.2.category == 2)))
def X_tg (pc : Nat) (off : Int) : Option Nat := match (pc : Int) + off with
  | .ofNat t => some t
  | .negSucc _ => none
abbrev X_P : Type := Nat × X_L × List Value
def X_i2 (g : Int32 → Int32 → Option Value) (pc : Nat) (ls : X_L) (st : List Value) : Option X_P := match st with
  | .int y :: .int x :: r => (match g x y with
    | some v => some (pc, ls, v :: r)
    | none => none)
  | _ => none
def X_l2 (g : Int64 → Int64 → Option Value) (pc : Nat) (ls : X_L) (st : List Value) : Option X_P := match st with
  | .long y :: .long x :: r => (match g x y with
    | some v => some (pc, ls, v :: r)
    | none => none)
  | _ => none
def X_li (g : Int64 → Int32 → Value) (pc : Nat) (ls : X_L) (st : List Value) : Option X_P := match st with
  | .int y :: .long x :: r => some (pc, ls, g x y :: r)
  | _ => none
def X_i1 (g : Int32 → Value) (pc : Nat) (ls : X_L) (st : List Value) : Option X_P := match st with
  | .int x :: r => some (pc, ls, g x :: r)
  | _ => none
def X_l1 (g : Int64 → Value) (pc : Nat) (ls : X_L) (st : List Value) : Option X_P := match st with
  | .long x :: r => some (pc, ls, g x :: r)
  | _ => none
def X_li_ (n pc : Nat) (ls : X_L) (st : List Value) : Option X_P := match X_ld ls n with
  | some (.int x) => some (pc, ls, .int x :: st)
  | _ => none
def X_ll_ (n pc : Nat) (ls : X_L) (st : List Value) : Option X_P := match X_ld ls n with
  | some (.long x) => some (pc, ls, .long x :: st)
  | _ => none
def X_la_ (n pc : Nat) (ls : X_L) (st : List Value) : Option X_P := match X_ld ls n with
  | some (.ref x) => some (pc, ls, .ref x :: st)
  | _ => none
def X_si_ (nL n pc : Nat) (ls : X_L) (st : List Value) : Option X_P := match st with
  | .int x :: r => if n < nL then some (pc, X_s1 ls n (.int x), r) else none
  | _ => none
def X_sa_ (nL n pc : Nat) (ls : X_L) (st : List Value) : Option X_P := match st with
  | .ref x :: r => if n < nL then some (pc, X_s1 ls n (.ref x), r) else none
  | _ => none
def X_sl_ (nL n pc : Nat) (ls : X_L) (st : List Value) : Option X_P := match st with
  | .long x :: r => if n + 1 < nL then some (pc, X_s2 ls n (.long x), r) else none
  | _ => none
def X_cd (cd : Jvm.ClassFile.Cond) (x y : Int32) : Bool := match cd with
  | .eq => decide (x = y)
  | .ne => decide (¬ x = y)
  | .lt => decide (x < y)
  | .ge => decide (y ≤ x)
  | .gt => decide (y < x)
  | .le => decide (x ≤ y)
def X_br (b : Bool) (t : Option Nat) (pc : Nat) (ls : X_L) (r : List Value) : Option X_P := match t with
  | some t => if b = true then some (t, ls, r) else some (pc, ls, r)
  | none => none
/-- the instructions that leave the heap alone -/
def X_pstep (nL : Nat) (row : Nat × (Jvm.ClassFile.Instr × Nat) × (Nat × Nat × Nat)) (ls : X_L) (st : List Value) : Option X_P := match row.2.1.1 with
  | .iconst n => some (row.1 + 1, ls, .int (Int32.ofInt n) :: st)
  | .bipush n => some (row.1 + 2, ls, .int (Int8.ofInt n).toInt32 :: st)
  | .sipush n => some (row.1 + 3, ls, .int (Int16.ofInt n).toInt32 :: st)
  | .lconst n => some (row.1 + 1, ls, .long (Int64.ofNat (n : Nat)) :: st)
  | .ldc _ => some (row.1 + 2, ls, .int (Int32.ofNat row.2.2.1) :: st)
  | .ldc2_w _ => some (row.1 + 3, ls, .long (Int64.ofNat row.2.2.1) :: st)
  | .iload n => X_li_ n (row.1 + 2) ls st
  | .iload_n n => X_li_ n (row.1 + 1) ls st
  | .lload n => X_ll_ n (row.1 + 2) ls st
  | .lload_n n => X_ll_ n (row.1 + 1) ls st
  | .aload n => X_la_ n (row.1 + 2) ls st
  | .aload_n n => X_la_ n (row.1 + 1) ls st
  | .istore n => X_si_ nL n (row.1 + 2) ls st
  | .istore_n n => X_si_ nL n (row.1 + 1) ls st
  | .lstore n => X_sl_ nL n (row.1 + 2) ls st
  | .lstore_n n => X_sl_ nL n (row.1 + 1) ls st
  | .astore n => X_sa_ nL n (row.1 + 2) ls st
  | .astore_n n => X_sa_ nL n (row.1 + 1) ls st
  | .iinc n k => (match X_ld ls n with
    | some (.int x) => if n < nL then some (row.1 + 3, X_s1 ls n (.int (x + Int32.ofInt k)), st) else none
    | _ => none)
  | .iadd => X_i2 (fun x y => some (.int (x + y))) (row.1 + 1) ls st
  | .isub => X_i2 (fun x y => some (.int (x - y))) (row.1 + 1) ls st
  | .imul => X_i2 (fun x y => some (.int (x * y))) (row.1 + 1) ls st
  | .iand => X_i2 (fun x y => some (.int (x &&& y))) (row.1 + 1) ls st
  | .ior => X_i2 (fun x y => some (.int (x ||| y))) (row.1 + 1) ls st
  | .idiv => X_i2 (fun x y => if y = 0 then none else some (.int (x / y))) (row.1 + 1) ls st
  | .irem => X_i2 (fun x y => if y = 0 then none else some (.int (x - x / y * y))) (row.1 + 1) ls st
  | .ishl => X_i2 (fun x y => some (.int (x <<< (y &&& 31)))) (row.1 + 1) ls st
  | .ishr => X_i2 (fun x y => some (.int (x >>> (y &&& 31)))) (row.1 + 1) ls st
  | .ineg => X_i1 (fun x => .int (-x)) (row.1 + 1) ls st
  | .i2l => X_i1 (fun x => .long x.toInt64) (row.1 + 1) ls st
  | .i2b => X_i1 (fun x => .int x.toInt8.toInt32) (row.1 + 1) ls st
  | .l2i => X_l1 (fun x => .int x.toInt32) (row.1 + 1) ls st
  | .ladd => X_l2 (fun x y => some (.long (x + y))) (row.1 + 1) ls st
  | .lsub => X_l2 (fun x y => some (.long (x - y))) (row.1 + 1) ls st
  | .lmul => X_l2 (fun x y => some (.long (x * y))) (row.1 + 1) ls st
  | .land => X_l2 (fun x y => some (.long (x &&& y))) (row.1 + 1) ls st
  | .lor => X_l2 (fun x y => some (.long (x ||| y))) (row.1 + 1) ls st
  | .ldiv => X_l2 (fun x y => if y = 0 then none else some (.long (x / y))) (row.1 + 1) ls st
  | .lrem => X_l2 (fun x y => if y = 0 then none else some (.long (x - x / y * y))) (row.1 + 1) ls st
  | .lcmp => X_l2 (fun x y => some (.int (lg_cmp x y))) (row.1 + 1) ls st
  | .lshl => X_li (fun x y => .long (x <<< (y.toInt64 &&& 63))) (row.1 + 1) ls st
  | .lshr => X_li (fun x y => .long (x >>> (y.toInt64 &&& 63))) (row.1 + 1) ls st
  | .dup => (match st with
    | v :: r => if v.category = 1 then some (row.1 + 1, ls, v :: v :: r) else none
    | _ => none)
  | .dup2 => (match st with
    | v :: w :: r => if v.category = 1 ∧ w.category = 1 then some (row.1 + 1, ls, v :: w :: v :: w :: r) else none
    | _ => none)
  | .pop => (match st with
    | v :: r => if v.category = 1 then some (row.1 + 1, ls, r) else none
    | _ => none)
  | .pop2 => (match st with
    | v :: r => if v.category = 2 then some (row.1 + 1, ls, r) else none
    | _ => none)
  | .ifCond cd off => (match st with
    | .int x :: r => X_br (X_cd cd x 0) (X_tg row.1 off) (row.1 + 3) ls r
    | _ => none)
  | .if_icmp cd off => (match st with
    | .int y :: .int x :: r => X_br (X_cd cd x y) (X_tg row.1 off) (row.1 + 3) ls r
    | _ => none)
  | .goto off => (match X_tg row.1 off with
    | some t => some (t, ls, st)
    | none => none)
  | .tableswitch d lo hi offs => (match st with
    | .int x :: r => if x.toInt < lo ∨ hi < x.toInt then (match X_tg row.1 d with
        | some t => some (t, ls, r)
        | none => none)
      else (match offs[(x.toInt - lo).toNat]? with
        | some off => (match X_tg row.1 off with
          | some t => some (t, ls, r)
          | none => none)
        | none => none)
    | _ => none)
  | .lookupswitch d ps => (match st with
    | .int x :: r => (match X_tg row.1 (Op.lookupswitch.offset ps.toList d x.toInt) with
      | some t => some (t, ls, r)
      | none => none)
    | _ => none)
  | _ => none
def X_fit (ty : FieldType) (v : Value) : Bool := match ty, v with
  | .int, .int _ => true
  | .long, .long _ => true
  | .boolean, .int x => decide (x = 0) || decide (x = 1)
  | .array _, .ref _ => true
  | .object _, .ref _ => true
  | _, _ => false
/-- a fresh array; a row of words has the sign .short -/
def X_blank (at_ : Jvm.ClassFile.ArrayType) (n : Nat) : Option X_Cell := match at_ with
  | .int => some (.inl (.int, n, .inl fun _ => 0))
  | .long => some (.inl (.long, n, .inr (.inl fun _ => 0)))
  | .byte => some (.inl (.byte, n, .inl fun _ => 0))
  | .boolean => some (.inl (.boolean, n, .inl fun _ => 0))
  | _ => none
/-- the script: how long, what it holds -/
abbrev X_Sc : Type := Nat × (Nat → Int32)
/-- the instructions that read or write the heap -/
def X_hstep (sc : X_Sc) (row : X_Row) (st : List Value) (S : X_S) : Option (Nat × List Value × X_S) := match row.2.1.1 with
  | .getfield _ => (match st with
    | .ref q :: r => (match S.1 q with
      | .inr (ci, fs) => if ci = row.2.2.1 then (match fs[row.2.2.2.1]? with
          | some v => some (row.1 + 3, v :: r, S)
          | none => none)
        else none
      | _ => none)
    | _ => none)
  | .putfield _ => (match st with
    | v :: .ref q :: r => (match S.1 q with
      | .inr (ci, fs) => if ci = row.2.2.1 ∧ row.2.2.2.1 < fs.length ∧ X_fit (X_ty row.2.2.1 row.2.2.2.1) v = true then
          some (row.1 + 3, r, (X_upd S.1 q (.inr (ci, fs.set row.2.2.2.1 v)), S.2))
        else none
      | _ => none)
    | _ => none)
  | .new _ => (match X_df[row.2.2.1]? with
    | some fs => some (row.1 + 3, .ref S.2.1 :: st, (X_upd S.1 S.2.1 (.inr (row.2.2.1, fs)), S.2.1 + 1, S.2.2 + fs.length))
    | none => none)
  | .newarray at_ => (match st with
    | .int n :: r => if n < 0 ∨ 67108864 < n.toNatClampNeg then none else (match X_blank at_ n.toNatClampNeg with
        | some c => some (row.1 + 2, .ref S.2.1 :: r, (X_upd S.1 S.2.1 c, S.2.1 + 1, S.2.2 + n.toNatClampNeg))
        | none => none)
    | _ => none)
  | .anewarray _ => (match st with
    | .int n :: r => if n < 0 ∨ 67108864 < n.toNatClampNeg then none else
        some (row.1 + 3, .ref S.2.1 :: r, (X_upd S.1 S.2.1 (.inl (.short, n.toNatClampNeg, .inr (.inr (.inr (.inr fun _ => none))))), S.2.1 + 1, S.2.2 + n.toNatClampNeg))
    | _ => none)
  | .iaload => (match st with
    | .int i :: .ref q :: r => if row.2.2.1 = 0 then (match S.1 q with
        | .inl (.int, n, .inl f) => if i < 0 ∨ n ≤ i.toNatClampNeg then none else some (row.1 + 1, .int (f i.toNatClampNeg) :: r, S)
        | _ => none)
      else if q = 0 then (if i < 0 ∨ sc.1 ≤ i.toNatClampNeg then none else some (row.1 + 1, .int (sc.2 i.toNatClampNeg) :: r, S)) else none
    | _ => none)
  | .laload => (match st with
    | .int i :: .ref q :: r => (match S.1 q with
      | .inl (.long, n, .inr (.inl f)) => if i < 0 ∨ n ≤ i.toNatClampNeg then none else some (row.1 + 1, .long (f i.toNatClampNeg) :: r, S)
      | _ => none)
    | _ => none)
  | .baload => (match st with
    | .int i :: .ref q :: r => (match S.1 q with
      | .inl (.byte, n, .inl f) => if i < 0 ∨ n ≤ i.toNatClampNeg then none else some (row.1 + 1, .int (f i.toNatClampNeg) :: r, S)
      | .inl (.boolean, n, .inl f) => if i < 0 ∨ n ≤ i.toNatClampNeg then none else some (row.1 + 1, .int (f i.toNatClampNeg) :: r, S)
      | _ => none)
    | _ => none)
  | .aaload => (match st with
    | .int i :: .ref q :: r => (match S.1 q with
      | .inl (.short, n, .inr (.inr (.inr (.inr f)))) => if i < 0 ∨ n ≤ i.toNatClampNeg then none else some (row.1 + 1, va_rf (f i.toNatClampNeg) :: r, S)
      | _ => none)
    | _ => none)
  | .iastore => (match st with
    | .int x :: .int i :: .ref q :: r => (match S.1 q with
      | .inl (.int, n, .inl f) => if i < 0 ∨ n ≤ i.toNatClampNeg then none else some (row.1 + 1, r, (X_upd S.1 q (.inl (.int, n, .inl (upd f i.toNatClampNeg x))), S.2))
      | _ => none)
    | _ => none)
  | .lastore => (match st with
    | .long x :: .int i :: .ref q :: r => (match S.1 q with
      | .inl (.long, n, .inr (.inl f)) => if i < 0 ∨ n ≤ i.toNatClampNeg then none else some (row.1 + 1, r, (X_upd S.1 q (.inl (.long, n, .inr (.inl (vp_updL f i.toNatClampNeg x)))), S.2))
      | _ => none)
    | _ => none)
  | .bastore => (match st with
    | .int x :: .int i :: .ref q :: r => (match S.1 q with
      | .inl (.byte, n, .inl f) => if i < 0 ∨ n ≤ i.toNatClampNeg then none else some (row.1 + 1, r, (X_upd S.1 q (.inl (.byte, n, .inl (upd f i.toNatClampNeg (vp_nar .byte x)))), S.2))
      | .inl (.boolean, n, .inl f) => if i < 0 ∨ n ≤ i.toNatClampNeg then none else some (row.1 + 1, r, (X_upd S.1 q (.inl (.boolean, n, .inl (upd f i.toNatClampNeg (vp_nar .boolean x)))), S.2))
      | _ => none)
    | _ => none)
  | .aastore => (match st with
    | .ref v :: .int i :: .ref q :: r => (match S.1 q with
      | .inl (.short, n, .inr (.inr (.inr (.inr f)))) => (match S.1 v with
        | .inr (ci, _) => if ci ≠ X_wci ∨ i < 0 ∨ n ≤ i.toNatClampNeg then none else
            some (row.1 + 1, r, (X_upd S.1 q (.inl (.short, n, .inr (.inr (.inr (.inr (va_up f i.toNatClampNeg (some v))))))), S.2))
        | _ => none)
      | _ => none)
    | _ => none)
  | .arraylength => (match st with
    | .ref q :: r => if q = 0 ∧ row.2.2.1 ≠ 0 then some (row.1 + 1, .int (Int32.ofNat sc.1) :: r, S) else none
    | _ => none)
  | .invokespecial _ => (match st with
    | .ref _ :: r => if row.2.2.1 = 9999 ∧ (r.map fun v => v.category).sum ≤ 8 then some (row.1 + 3, r, S) else none
    | _ => none)
  | .invokestatic _ => if row.2.2.1 = 9998 then (match st with
      | .int n :: .int dp :: .ref a :: .int sp :: .ref a0 :: r => (match S.1 a0, S.1 a with
        | .inl (.long, n0, .inr (.inl f)), .inl (.long, n1, .inr (.inl g)) =>
          if sp < 0 ∨ dp < 0 ∨ n < 0 ∨ ¬ sp.toNatClampNeg + n.toNatClampNeg ≤ n0 ∨ ¬ dp.toNatClampNeg + n.toNatClampNeg ≤ n1 ∨ ¬ (r.map fun v => v.category).sum ≤ 8 then none
          else some (row.1 + 3, r, (X_upd S.1 a (.inl (.long, n1, .inr (.inl (va_cpy f g sp.toNatClampNeg dp.toNatClampNeg n.toNatClampNeg)))), S.2))
        | _, _ => none)
      | _ => none)
    else none
  | _ => none
def X_pop : Nat → List Value → Option (List Value × List Value)
  | 0, st => some ([], st)
  | n + 1, st => match st with
    | v :: r => (match X_pop n r with
      | some (as, r') => some (as ++ [v], r')
      | none => none)
    | [] => none
/-- calls and returns -/
def X_cstep (j : Nat) (row : X_Row) (ls : X_L) (st : List Value) (S : X_S) : Option X_O := match row.2.1.1 with
  | .invokevirtual _ => (match X_pop (X_na row.2.2.1) st with
    | some (as, .ref q :: r) => (match S.1 q with
      | .inr (ci, _) => if ci = X_ci row.2.2.1 ∧ (r.map fun v => v.category).sum ≤ 8 ∧ 1 + (as.map fun v => v.category).sum ≤ X_nL row.2.2.1 then some (.inr (.inl (row.2.2.1, .ref q :: as, (row.1 + 3, ls, r, S)))) else none
      | _ => none)
    | _ => none)
  | .invokespecial _ => (match X_pop (X_na row.2.2.1) st with
    | some (as, .ref q :: r) => if row.2.2.1 ≠ 9999 ∧ (r.map fun v => v.category).sum ≤ 8 ∧ 1 + (as.map fun v => v.category).sum ≤ X_nL row.2.2.1 then some (.inr (.inl (row.2.2.1, .ref q :: as, (row.1 + 3, ls, r, S)))) else none
    | _ => none)
  | .invokestatic _ => (match X_pop (X_na row.2.2.1) st with
    | some (as, r) => if row.2.2.1 ≠ 9998 ∧ (r.map fun v => v.category).sum ≤ 8 ∧ (as.map fun v => v.category).sum ≤ X_nL row.2.2.1 then some (.inr (.inl (row.2.2.1, as, (row.1 + 3, ls, r, S)))) else none
    | none => none)
  | .ireturn => (match st with
    | [.int x] => (match X_rt j with
      | some ty => if X_fit ty (.int x) = true then some (.inr (.inr (some (.int x), S))) else none
      | none => none)
    | _ => none)
  | .lreturn => (match st with
    | [.long x] => (match X_rt j with
      | some ty => if X_fit ty (.long x) = true then some (.inr (.inr (some (.long x), S))) else none
      | none => none)
    | _ => none)
  | .return_ => (match st with
    | [] => (match X_rt j with
      | none => some (.inr (.inr (none, S)))
      | _ => none)
    | _ => none)
  | _ => none
def X_step (sc : X_Sc) (j : Nat) (F : X_F) : Option X_O := match X_row j F.1 with
  | some row => (match X_pstep (X_nL j) row F.2.1 F.2.2.1 with
    | some (pc, ls, st) => some (.inl (pc, ls, st, F.2.2.2))
    | none => (match X_hstep sc row F.2.2.1 F.2.2.2 with
      | some (pc, st, S) => some (.inl (pc, F.2.1, st, S))
      | none => X_cstep j row F.2.1 F.2.2.1 F.2.2.2))
  | none => none
def X_run (sc : X_Sc) : Nat → Nat → X_F → Option (Option Value × X_S)
  | 0, _, _ => none
  | n + 1, j, F => match X_step sc j F with
    | some (.inl F') => X_run sc n j F'
    | some (.inr (.inl (k, as, (pc, ls, st, S)))) => (match X_run sc n k (0, lv_args 0 as, [], S) with
      | some (v, S') => X_run sc n j (pc, ls, v.toList ++ st, S')
      | none => none)
    | some (.inr (.inr r)) => some r
    | none => none
