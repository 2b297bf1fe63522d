/-! THE PURE MACHINE: the bytecode of the system run on plain data (locals by number, a stack, cells by address); the rows behind it say that the real machine does the same. -/
abbrev pv_F : Type := Nat → Option Value
def pv_up1 (f : pv_F) (i : Nat) (v : Value) : pv_F := fun j => if j = i then some v else match f j with
  | some w => if j + 1 = i ∧ w.category = 2 then none else some w
  | none => none
def pv_up2 (f : pv_F) (i : Nat) (v : Value) : pv_F := fun j => if j = i then some v else if j = i + 1 then none else match f j with
  | some w => if j + 1 = i ∧ w.category = 2 then none else some w
  | none => none
/-- locals as a list -/
def pv_fl (l : List (Option Value)) : pv_F := fun i => match l[i]? with
  | some o => o
  | none => none
def pv_es : List Value → List (Option Value)
  | [] => []
  | v :: vs => if v.category = 2 then some v :: none :: pv_es vs else some v :: pv_es vs
def pv_en (as : List Value) : pv_F := pv_fl (pv_es as)
/-- a cell: an array (kind of its class, length, contents) or an object (number of its class, fields) -/
abbrev pv_E : Type := (Nat × vp_A) ⊕ (Nat × List Value)
abbrev pv_H : Type := Nat → Option pv_E
def pv_set (h : pv_H) (a : Nat) (e : pv_E) : pv_H := fun b => if b = a then some e else h b
/-- the methods: the tables' code words, in their order -/
def pv_ms : List (MethodName × ByteArray × Nat × Option FieldType) := tables_1.filterMap fun w => match w with
  | .code y c n r => some (y, c, n, r)
  | _ => none
def pv_y (M : Nat) : MethodName := match pv_ms[M]? with
  | some q => q.1
  | none => ⟨"", "", ""⟩
def pv_bc (M : Nat) : ByteArray := match pv_ms[M]? with
  | some q => q.2.1
  | none => ⟨#[]⟩
def pv_mL (M : Nat) : Nat := match pv_ms[M]? with
  | some q => q.2.2.1
  | none => 0
def pv_rt (M : Nat) : Option FieldType := match pv_ms[M]? with
  | some q => q.2.2.2
  | none => none
def pv_own (M : Nat) : String := (pv_y M).cls
def pv_dec (M pc : Nat) : Option (Instr × Nat) := match decode (pv_bc M) pc with
  | .ok q => some q
  | .error _ => none
/-- what length an instruction has that we take -/
def pv_ln (i : Instr) (len : Nat) : Bool := match i with
  | .bipush _ => len == 2
  | .iload _ => len == 2
  | .lload _ => len == 2
  | .aload _ => len == 2
  | .istore _ => len == 2
  | .lstore _ => len == 2
  | .astore _ => len == 2
  | .ldc _ => len == 2
  | .sipush _ => len == 3
  | .iinc _ _ => len == 3
  | .ifCond _ _ => len == 3
  | .if_icmp _ _ => len == 3
  | .goto _ => len == 3
  | .getfield _ => len == 3
  | .putfield _ => len == 3
  | .invokevirtual _ => len == 3
  | .invokestatic _ => len == 3
  | .ldc_w _ => len == 3
  | .ldc2_w _ => len == 3
  | .tableswitch _ _ _ _ => true
  | .lookupswitch _ _ => true
  | _ => len == 1
def pv_tg (pc : Nat) (off : Int) : Option Nat := match (pc : Int) + off with
  | .ofNat t => some t
  | .negSucc _ => none
def pv_cb (c : ClassFile.Cond) (x y : Int32) : Bool := match c with
  | .eq => decide (x = y)
  | .ne => decide (¬ x = y)
  | .lt => decide (x < y)
  | .ge => decide (y ≤ x)
  | .gt => decide (y < x)
  | .le => decide (x ≤ y)

/-- one step without a cell: where it goes on, the locals, the stack -/
def pv_sp (nL pc : Nat) (f : pv_F) (i : Instr) (st : List Value) : Option (Nat × pv_F × List Value) := match i with
  | .iconst n => some (pc + 1, f, .int (Int32.ofInt n) :: st)
  | .bipush n => some (pc + 2, f, .int (Int8.ofInt n).toInt32 :: st)
  | .sipush n => some (pc + 3, f, .int (Int16.ofInt n).toInt32 :: st)
  | .lconst n => some (pc + 1, f, .long (Int64.ofNat (n : Nat)) :: st)
  | .iload_n k => match f k with
    | some (.int x) => some (pc + 1, f, .int x :: st)
    | _ => none
  | .iload k => match f k with
    | some (.int x) => some (pc + 2, f, .int x :: st)
    | _ => none
  | .lload_n k => match f k with
    | some (.long x) => some (pc + 1, f, .long x :: st)
    | _ => none
  | .lload k => match f k with
    | some (.long x) => some (pc + 2, f, .long x :: st)
    | _ => none
  | .aload_n k => match f k with
    | some (.ref x) => some (pc + 1, f, .ref x :: st)
    | _ => none
  | .aload k => match f k with
    | some (.ref x) => some (pc + 2, f, .ref x :: st)
    | _ => none
  | .istore_n k => match st with
    | .int x :: r => if (k : Nat) < nL then some (pc + 1, pv_up1 f k (.int x), r) else none
    | _ => none
  | .istore k => match st with
    | .int x :: r => if k < nL then some (pc + 2, pv_up1 f k (.int x), r) else none
    | _ => none
  | .lstore_n k => match st with
    | .long x :: r => if (k : Nat) + 1 < nL then some (pc + 1, pv_up2 f k (.long x), r) else none
    | _ => none
  | .lstore k => match st with
    | .long x :: r => if k + 1 < nL then some (pc + 2, pv_up2 f k (.long x), r) else none
    | _ => none
  | .astore_n k => match st with
    | .ref x :: r => if (k : Nat) < nL then some (pc + 1, pv_up1 f k (.ref x), r) else none
    | _ => none
  | .astore k => match st with
    | .ref x :: r => if k < nL then some (pc + 2, pv_up1 f k (.ref x), r) else none
    | _ => none
  | .iinc k n => match f k with
    | some (.int x) => if k < nL then some (pc + 3, pv_up1 f k (.int (x + Int32.ofInt n)), st) else none
    | _ => none
  | .iadd => match st with
    | .int y :: .int x :: r => some (pc + 1, f, .int (x + y) :: r)
    | _ => none
  | .isub => match st with
    | .int y :: .int x :: r => some (pc + 1, f, .int (x - y) :: r)
    | _ => none
  | .imul => match st with
    | .int y :: .int x :: r => some (pc + 1, f, .int (x * y) :: r)
    | _ => none
  | .iand => match st with
    | .int y :: .int x :: r => some (pc + 1, f, .int (x &&& y) :: r)
    | _ => none
  | .ior => match st with
    | .int y :: .int x :: r => some (pc + 1, f, .int (x ||| y) :: r)
    | _ => none
  | .ixor => match st with
    | .int y :: .int x :: r => some (pc + 1, f, .int (x ^^^ y) :: r)
    | _ => none
  | .ishl => match st with
    | .int y :: .int x :: r => some (pc + 1, f, .int (x <<< (y &&& 31)) :: r)
    | _ => none
  | .ishr => match st with
    | .int y :: .int x :: r => some (pc + 1, f, .int (x >>> (y &&& 31)) :: r)
    | _ => none
  | .iushr => match st with
    | .int y :: .int x :: r => some (pc + 1, f, .int (x.toUInt32 >>> (y.toUInt32 &&& Int32.toUInt32 31)).toInt32 :: r)
    | _ => none
  | .idiv => match st with
    | .int y :: .int x :: r => if y = 0 then none else some (pc + 1, f, .int (x / y) :: r)
    | _ => none
  | .irem => match st with
    | .int y :: .int x :: r => if y = 0 then none else some (pc + 1, f, .int (x - x / y * y) :: r)
    | _ => none
  | .ineg => match st with
    | .int x :: r => some (pc + 1, f, .int (-x) :: r)
    | _ => none
  | .ladd => match st with
    | .long y :: .long x :: r => some (pc + 1, f, .long (x + y) :: r)
    | _ => none
  | .lsub => match st with
    | .long y :: .long x :: r => some (pc + 1, f, .long (x - y) :: r)
    | _ => none
  | .lmul => match st with
    | .long y :: .long x :: r => some (pc + 1, f, .long (x * y) :: r)
    | _ => none
  | .land => match st with
    | .long y :: .long x :: r => some (pc + 1, f, .long (x &&& y) :: r)
    | _ => none
  | .lor => match st with
    | .long y :: .long x :: r => some (pc + 1, f, .long (x ||| y) :: r)
    | _ => none
  | .lneg => match st with
    | .long x :: r => some (pc + 1, f, .long (-x) :: r)
    | _ => none
  | .lshl => match st with
    | .int y :: .long x :: r => some (pc + 1, f, .long (x <<< (y.toInt64 &&& 63)) :: r)
    | _ => none
  | .lshr => match st with
    | .int y :: .long x :: r => some (pc + 1, f, .long (x >>> (y.toInt64 &&& 63)) :: r)
    | _ => none
  | .ldiv => match st with
    | .long y :: .long x :: r => if y = 0 then none else some (pc + 1, f, .long (x / y) :: r)
    | _ => none
  | .lrem => match st with
    | .long y :: .long x :: r => if y = 0 then none else some (pc + 1, f, .long (x - x / y * y) :: r)
    | _ => none
  | .lcmp => match st with
    | .long y :: .long x :: r => some (pc + 1, f, .int (lg_cmp x y) :: r)
    | _ => none
  | .i2l => match st with
    | .int x :: r => some (pc + 1, f, .long x.toInt64 :: r)
    | _ => none
  | .l2i => match st with
    | .long x :: r => some (pc + 1, f, .int x.toInt32 :: r)
    | _ => none
  | .i2b => match st with
    | .int x :: r => some (pc + 1, f, .int x.toInt8.toInt32 :: r)
    | _ => none
  | .i2s => match st with
    | .int x :: r => some (pc + 1, f, .int x.toInt16.toInt32 :: r)
    | _ => none
  | .dup => match st with
    | v :: r => if v.category = 1 then some (pc + 1, f, v :: v :: r) else none
    | _ => none
  | .dup2 => match st with
    | v :: w :: r => if v.category = 1 ∧ w.category = 1 then some (pc + 1, f, v :: w :: v :: w :: r) else none
    | _ => none
  | .pop => match st with
    | v :: r => if v.category = 1 then some (pc + 1, f, r) else none
    | _ => none
  | .pop2 => match st with
    | v :: r => if v.category = 2 then some (pc + 1, f, r) else none
    | _ => none
  | .goto o => match pv_tg pc o with
    | some t => some (t, f, st)
    | none => none
  | .ifCond c o => match st with
    | .int x :: r => match pv_tg pc o with
      | some t => if pv_cb c x 0 = true then some (t, f, r) else some (pc + 3, f, r)
      | none => none
    | _ => none
  | .if_icmp c o => match st with
    | .int y :: .int x :: r => match pv_tg pc o with
      | some t => if pv_cb c x y = true then some (t, f, r) else some (pc + 3, f, r)
      | none => none
    | _ => none
  | .tableswitch d lo hi os => match st with
    | .int x :: r => if x.toInt < lo ∨ hi < x.toInt then (match pv_tg pc d with
        | some t => some (t, f, r)
        | none => none) else (match os[(x.toInt - lo).toNat]? with
        | some o => (match pv_tg pc o with
          | some t => some (t, f, r)
          | none => none)
        | none => none)
    | _ => none
  | .lookupswitch d ps => match st with
    | .int x :: r => if (ps.toList.zip (ps.toList.drop 1)).all (fun (a, next) => a.1 < next.1) = true then (match pv_tg pc (Op.lookupswitch.offset ps.toList d x.toInt) with
        | some t => some (t, f, r)
        | none => none) else none
    | _ => none
  | _ => none
/-- the kinds of arrays -/
def pv_tys (dA : Nat → ClassId) : List (ClassId × FieldType) := [(dA 0, .int), (dA 1, .long), (dA 2, .byte), (dA 3, .boolean), (dA 4, .object "AngleNet$Net"), (dA 5, .object "AngleNet$Row")]
def pv_find (C : String) : Option Nat := (List.range 8).find? fun i => decide ((pv_cls.map fun q => q.1)[i]? = some C)
/-- a field by its entry: number of its class, its place -/
def pv_gfo (own : String) (idx : Nat) : Option (Nat × Nat) := lw_tbl.findSome? fun w => match w with
  | .fieldLink o i r n d => if i = idx ∧ o = own then (pv_find r).bind fun ci => match pv_cls[ci]? with
      | some q => ((List.range q.2.2).find? fun k => decide (q.2.1 k = (r, n, d, (q.2.1 k).2.2.2))).map fun k => (ci, k)
      | none => none
    else none
  | _ => none
def pv_gf (M idx : Nat) : Option (Nat × Nat) := pv_gfo (pv_own M) idx
def pv_kco (own : String) (idx : Nat) : Option Int32 := lw_tbl.findSome? fun w => match w with
  | .constant o i v => if i = idx ∧ o = own then some v else none
  | _ => none
def pv_kc (M idx : Nat) : Option Int32 := pv_kco (pv_own M) idx
def pv_kdo (own : String) (idx : Nat) : Option Int64 := lw_tbl.findSome? fun w => match w with
  | .constantLong o i v => if i = idx ∧ o = own then some v else none
  | _ => none
def pv_kd (M idx : Nat) : Option Int64 := pv_kdo (pv_own M) idx
def pv_tx : List String := ["posts", "third", "angle", "corner", "weight", "place", "circle", "sum", "to"]
def pv_len : List Nat := [5, 5, 5, 6, 6, 5, 6, 3, 2]
def pv_byt : List (List Int32) := [[112, 111, 115, 116, 115], [116, 104, 105, 114, 100], [97, 110, 103, 108, 101], [99, 111, 114, 110, 101, 114], [119, 101, 105, 103, 104, 116], [112, 108, 97, 99, 101], [99, 105, 114, 99, 108, 101], [115, 117, 109], [116, 111]]
def pv_kso (own : String) (idx : Nat) : Option Nat := lw_tbl.findSome? fun w => match w with
  | .stringRef o i t => if i = idx ∧ o = own then (List.range 9).find? (fun k => decide (pv_tx[k]? = some t)) else none
  | _ => none
def pv_ks (M idx : Nat) : Option Nat := pv_kso (pv_own M) idx
def pv_si (K : Nat → Nat) (b : Nat) : Option Nat := (List.range 9).find? fun i => decide (K i = b)
abbrev pv_cpn : MethodName := arraycopyName
def pv_sln : MethodName := ⟨"java/lang/String", "length", "()I"⟩
def pv_scn : MethodName := ⟨"java/lang/String", "charAt", "(I)C"⟩
/-- a method by its entry: its name, and the nest's host if it is a nest mate's -/
def pv_mlo (own : String) (idx : Nat) : Option (MethodName × Option String) := lw_tbl.findSome? fun w => match w with
  | .methodLink o i y => if i = idx ∧ o = own then some (y, none) else none
  | .methodLinkNest o i y s => if i = idx ∧ o = own then some (y, some s) else none
  | _ => none
def pv_ml (M idx : Nat) : Option (MethodName × Option String) := pv_mlo (pv_own M) idx
def pv_ix (y : MethodName) : Option Nat := pv_ms.findIdx? fun q => decide (q.1 = y)
def pv_np (M : Nat) : Nat := match parseMethodDescriptor (pv_y M).desc with
  | some sig => sig.parameters.length
  | none => 0
def pv_fr (M : Nat) : Nat := (pv_rms.getD M (0, 0)).1
def pv_lo (M : Nat) : Nat := (pv_rms.getD M (0, 0)).2
/-- what must be so of a call of M' in M -/
def pv_okB (M M' : Nat) : Bool := decide ((pv_y M').cls ≠ "java/lang/invoke/MethodHandle") && decide ((pv_y M').cls ≠ "java/lang/invoke/VarHandle") && decide ((parseMethodDescriptor (pv_y M').desc).map (fun d => d.parameters.length) = some (pv_np M')) && decide (pv_fr M' + 1 ≤ pv_fr M) && decide (8 + (pv_mL M' + 11) + pv_lo M' ≤ pv_lo M) && plainName (pv_y M').cls && decide (Cond.initialized (pv_y M').cls ∈ lw_tbl) && decide (M' < pv_ms.length)
def pv_okV (M M' : Nat) : Bool := pv_okB M M' && decide (Cond.instanceMethod (pv_y M') ∈ lw_tbl) && decide (Cond.selects (pv_y M').cls (pv_y M') (pv_y M') ∈ lw_tbl)
def pv_okS (M M' : Nat) : Bool := pv_okB M M' && decide (Cond.static (pv_y M') ∈ lw_tbl)
def pv_okC (M : Nat) : Bool := decide (Cond.native pv_cpn ∈ lw_tbl) && decide (Cond.static pv_cpn ∈ lw_tbl) && decide (Cond.initialized "java/lang/System" ∈ lw_tbl) && decide (1 ≤ pv_fr M) && decide (60 ≤ pv_lo M)
def pv_okM (M : Nat) (y : MethodName) (cd : ByteArray) (n : Nat) (r : Option FieldType) : Bool := decide (Cond.static y ∈ lw_tbl) && decide (Cond.initialized "java/lang/Math" ∈ lw_tbl) && decide (Cond.code y cd n r ∈ lw_tbl) && decide (1 ≤ pv_fr M) && decide (30 ≤ pv_lo M)
def pv_okL (M : Nat) : Bool := decide (5 ≤ pv_fr M) && decide (110 ≤ pv_lo M)
/-- a call: the method, its arguments, what is left on the stack -/
def pv_cs (M : Nat) (i : Instr) (st : List Value) (h : pv_H) : Option (Nat × List Value × List Value) := match i with
  | .invokevirtual idx => match pv_ml M idx with
    | some (y, none) => match pv_ix y with
      | some M' => match st.drop (pv_np M') with
        | .ref b :: r => match h b with
          | some (.inr (ci, _)) => if pv_find (pv_own M') = some ci ∧ pv_okV M M' = true ∧ (r.map fun v => v.category).sum ≤ 8 ∧ (st.take (pv_np M')).length = pv_np M' ∧ (lg_sl (.ref b :: (st.take (pv_np M')).reverse)).length ≤ pv_mL M' then some (M', .ref b :: (st.take (pv_np M')).reverse, r) else none
          | _ => none
        | _ => none
      | none => none
    | _ => none
  | .invokestatic idx => match pv_ml M idx with
    | some (y, _) => match pv_ix y with
      | some M' => if pv_okS M M' = true ∧ ((st.drop (pv_np M')).map fun v => v.category).sum ≤ 8 ∧ (st.take (pv_np M')).length = pv_np M' ∧ (lg_sl (st.take (pv_np M')).reverse).length ≤ pv_mL M' then some (M', (st.take (pv_np M')).reverse, st.drop (pv_np M')) else none
      | none => none
    | none => none
  | _ => none
/-- a return -/
def pv_re (M : Nat) (i : Instr) (st : List Value) : Option (Option Value) := match i with
  | .ireturn => match st with
    | [.int v] => if pv_rt M = some .int then some (some (.int v)) else if pv_rt M = some .boolean ∧ narrow .boolean (.int v) = .int v then some (some (.int v)) else none
    | _ => none
  | .lreturn => match st with
    | [.long v] => if pv_rt M = some .long then some (some (.long v)) else none
    | _ => none
  | .return_ => match st with
    | [] => if pv_rt M = none then some none else none
    | _ => none
  | _ => none
def pv_in (i : Int32) (n : Nat) : Bool := decide (¬ i < 0) && decide (i.toNatClampNeg < n)
/-- one step on cells -/
def pv_sh (K : Nat → Nat) (M pc : Nat) (i : Instr) (st : List Value) (h : pv_H) : Option (Nat × List Value × pv_H) := match i with
  | .getfield idx => match st with
    | .ref a :: r => match pv_gf M idx with
      | some (ci, k) => match h a with
        | some (.inr (cj, fs)) => if cj = ci then (match fs[k]? with
            | some v => some (pc + 3, v :: r, h)
            | none => none) else none
        | _ => none
      | none => none
    | _ => none
  | .putfield idx => match st with
    | v :: .ref a :: r => match pv_gf M idx with
      | some (ci, k) => match h a with
        | some (.inr (cj, fs)) => match pv_cls[ci]? with
          | some q => match parseFieldDescriptor (q.2.1 k).2.2.1 with
            | some ty => if cj = ci ∧ (q.2.1 k).2.2.2 = false ∧ narrow ty v = v ∧ fits ty v = true ∧ k < fs.length ∧ refKind ty = false then some (pc + 3, r, pv_set h a (.inr (ci, fs.set k v))) else none
            | none => none
          | none => none
        | _ => none
      | none => none
    | _ => none
  | .iaload => match st with
    | .int j :: .ref a :: r => match h a with
      | some (.inl (0, n, .inl f)) => if pv_in j n = true then some (pc + 1, .int (f j.toNatClampNeg) :: r, h) else none
      | _ => none
    | _ => none
  | .laload => match st with
    | .int j :: .ref a :: r => match h a with
      | some (.inl (1, n, .inr (.inl f))) => if pv_in j n = true then some (pc + 1, .long (f j.toNatClampNeg) :: r, h) else none
      | _ => none
    | _ => none
  | .baload => match st with
    | .int j :: .ref a :: r => match h a with
      | some (.inl (2, n, .inl f)) => if pv_in j n = true then some (pc + 1, .int (f j.toNatClampNeg) :: r, h) else none
      | some (.inl (3, n, .inl f)) => if pv_in j n = true then some (pc + 1, .int (f j.toNatClampNeg) :: r, h) else none
      | _ => none
    | _ => none
  | .aaload => match st with
    | .int j :: .ref a :: r => match h a with
      | some (.inl (4, n, .inr (.inr (.inr (.inr f))))) => if pv_in j n = true then some (pc + 1, va_rf (f j.toNatClampNeg) :: r, h) else none
      | some (.inl (5, n, .inr (.inr (.inr (.inr f))))) => if pv_in j n = true then some (pc + 1, va_rf (f j.toNatClampNeg) :: r, h) else none
      | _ => none
    | _ => none
  | .iastore => match st with
    | .int x :: .int j :: .ref a :: r => match h a with
      | some (.inl (0, n, .inl f)) => if pv_in j n = true then some (pc + 1, r, pv_set h a (.inl (0, n, .inl (upd f j.toNatClampNeg x)))) else none
      | _ => none
    | _ => none
  | .lastore => match st with
    | .long x :: .int j :: .ref a :: r => match h a with
      | some (.inl (1, n, .inr (.inl f))) => if pv_in j n = true then some (pc + 1, r, pv_set h a (.inl (1, n, .inr (.inl (vp_updL f j.toNatClampNeg x))))) else none
      | _ => none
    | _ => none
  | .bastore => match st with
    | .int x :: .int j :: .ref a :: r => match h a with
      | some (.inl (2, n, .inl f)) => if pv_in j n = true then some (pc + 1, r, pv_set h a (.inl (2, n, .inl (upd f j.toNatClampNeg (vp_nar .byte x))))) else none
      | some (.inl (3, n, .inl f)) => if pv_in j n = true then some (pc + 1, r, pv_set h a (.inl (3, n, .inl (upd f j.toNatClampNeg (vp_nar .boolean x))))) else none
      | _ => none
    | _ => none
  | .arraylength => match st with
    | .ref a :: r => match h a with
      | some (.inl (0, x)) => some (pc + 1, .int (Int32.ofNat x.1) :: r, h)
      | some (.inl (1, x)) => some (pc + 1, .int (Int32.ofNat x.1) :: r, h)
      | _ => none
    | _ => none
  | .ldc idx => match pv_kc M idx with
    | some v => some (pc + 2, .int v :: st, h)
    | none => match pv_ks M idx with
      | some k => some (pc + 2, .ref (K k) :: st, h)
      | none => none
  | .ldc_w idx => match pv_kc M idx with
    | some v => some (pc + 3, .int v :: st, h)
    | none => none
  | .ldc2_w idx => match pv_kd M idx with
    | some v => some (pc + 3, .long v :: st, h)
    | none => none
  | .invokevirtual idx => match pv_ml M idx with
    | some (y, none) => if y = pv_sln then (match st with
        | .ref b :: r => match pv_si K b with
          | some k => if pv_okL M = true ∧ (r.map fun v => v.category).sum ≤ 8 then some (pc + 3, .int (nI (pv_len.getD k 0)) :: r, h) else none
          | none => none
        | _ => none) else if y = pv_scn then (match st with
        | .int j :: .ref b :: r => match pv_si K b with
          | some k => if pv_okL M = true ∧ (r.map fun v => v.category).sum ≤ 8 ∧ pv_in j (pv_len.getD k 0) = true then some (pc + 3, .int ((pv_byt.getD k []).getD j.toNatClampNeg 0 &&& 255) :: r, h) else none
          | none => none
        | _ => none) else none
    | _ => none
  | .invokestatic idx => match pv_ml M idx with
    | some (y, none) => if y = pv_cpn ∧ pv_okC M = true then (match st with
        | .int n :: .int dp :: .ref a :: .int sp :: .ref a0 :: r => if (r.map fun v => v.category).sum ≤ 8 ∧ ¬ sp < 0 ∧ ¬ dp < 0 ∧ ¬ n < 0 then (match h a0, h a with
          | some (.inl (0, n0, .inl f)), some (.inl (0, n1, .inl g)) => if sp.toNatClampNeg + n.toNatClampNeg ≤ n0 ∧ dp.toNatClampNeg + n.toNatClampNeg ≤ n1 then some (pc + 3, r, pv_set h a (.inl (0, n1, .inl (va_cpy f g sp.toNatClampNeg dp.toNatClampNeg n.toNatClampNeg)))) else none
          | some (.inl (1, n0, .inr (.inl f))), some (.inl (1, n1, .inr (.inl g))) => if sp.toNatClampNeg + n.toNatClampNeg ≤ n0 ∧ dp.toNatClampNeg + n.toNatClampNeg ≤ n1 then some (pc + 3, r, pv_set h a (.inl (1, n1, .inr (.inl (va_cpy f g sp.toNatClampNeg dp.toNatClampNeg n.toNatClampNeg))))) else none
          | _, _ => none) else none
        | _ => none) else if y = Lib.Math.max.name ∧ pv_okM M y Lib.Math.max.code 2 (some .int) = true then (match st with
        | .int v :: .int u :: r => if (r.map fun v => v.category).sum ≤ 8 then some (pc + 3, .int (if u < v then v else u) :: r, h) else none
        | _ => none) else if y = Lib.Math.min.name ∧ pv_okM M y Lib.Math.min.code 2 (some .int) = true then (match st with
        | .int v :: .int u :: r => if (r.map fun v => v.category).sum ≤ 8 then some (pc + 3, .int (if v < u then v else u) :: r, h) else none
        | _ => none) else if y = Lib.MathLoose.abs_long.x ∧ pv_okM M y Lib.MathLoose.abs_long.code 2 (some .long) = true then (match st with
        | .long u :: r => if (r.map fun v => v.category).sum ≤ 8 then some (pc + 3, .long (if 0 < u then u else -u) :: r, h) else none
        | _ => none) else none
    | _ => none
  | _ => none
/-- THE MACHINE, n steps deep at most -/
def pv_ev (K : Nat → Nat) : Nat → Nat → Nat → pv_F → List Value → pv_H → Option (Option Value × pv_H)
  | 0, _, _, _, _, _ => none
  | n + 1, M, pc, f, st, h => match pv_dec M pc with
    | none => none
    | some (i, len) => if pv_ln i len = true then (match pv_sp (pv_mL M) pc f i st with
      | some (pc', f', st') => pv_ev K n M pc' f' st' h
      | none => match pv_sh K M pc i st h with
        | some (pc', st', h') => pv_ev K n M pc' f st' h'
        | none => match pv_re M i st with
          | some r => some (r, h)
          | none => match pv_cs M i st h with
            | some (M', as, rest) => (match pv_ev K n M' 0 (pv_en as) [] h with
              | some (r, h') => pv_ev K n M (pc + 3) f (r.toList ++ rest) h'
              | none => none)
            | none => none) else none
theorem pv_ev_mono (K : Nat → Nat) : ∀ (n M pc : Nat) (f : pv_F) (st : List Value) (h : pv_H) (x : Option Value × pv_H), pv_ev K n M pc f st h = some x → ∀ m, n ≤ m → pv_ev K m M pc f st h = some x := by
  intro n
  induction n with
  | zero => intro M pc f st h x hx; cases hx
  | succ n ih =>
    intro M pc f st h x hx m hm
    obtain ⟨m, rfl⟩ : ∃ k, m = k + 1 := ⟨m - 1, by omega⟩
    have hnm : n ≤ m := by omega
    rw [pv_ev] at hx ⊢
    split at hx
    · cases hx
    · rename_i i len hd
      split at hx
      · rename_i hl
        rw [if_pos hl]
        split at hx
        · exact ih _ _ _ _ _ _ hx m hnm
        · split at hx
          · exact ih _ _ _ _ _ _ hx m hnm
          · split at hx
            · exact hx
            · split at hx
              · rename_i M' as rest hc
                split at hx
                · rename_i r h' hr
                  rw [ih _ _ _ _ _ _ hr m hnm]
                  exact ih _ _ _ _ _ _ hx m hnm
                · cases hx
              · cases hx
      · cases hx
