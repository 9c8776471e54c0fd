/-! ===== the interpreter: abstract cells, one step, a run ===== -/
abbrev ni_A : Type := Nat × ((Nat → Int32) ⊕ ((Nat → Int64) ⊕ List (Option Nat)))
abbrev ni_E : Type := (Nat × ni_A) ⊕ (Nat × List Value)
abbrev ni_H : Type := Nat → ni_E
def ni_up (h : ni_H) (i : Nat) (e : ni_E) : ni_H := fun j => if j = i then e else h j
def ni_dead : ni_E := .inl (9, 0, .inr (.inr []))
abbrev ni_I (n : Nat) (f : Nat → Int32) : ni_E := .inl (0, n, .inl f)
abbrev ni_L (n : Nat) (f : Nat → Int64) : ni_E := .inl (1, n, .inr (.inl f))
abbrev ni_R (t n : Nat) (l : List (Option Nat)) : ni_E := .inl (t, n, .inr (.inr l))
abbrev ni_O (c : Nat) (fs : List Value) : ni_E := .inr (c, fs)
/-- an index in its range -/
def ni_in (i : Int32) (n : Nat) : Bool := !(decide (i < 0) || decide (n ≤ i.toNatClampNeg))
theorem ni_in_iff {i : Int32} {n : Nat} : ni_in i n = true ↔ vp_in i n := by
  unfold ni_in vp_in
  simp
/-- objects: is it one of that number with that field; its field; the object with another one -/
def ni_is (e : ni_E) (c k : Nat) : Bool := match e with
  | .inr (c', fs) => Nat.beq c' c && Nat.ble (k + 1) fs.length
  | .inl _ => false
def ni_gv (e : ni_E) (k : Nat) : Value := match e with
  | .inr (_, fs) => fs.getD k .null
  | .inl _ => .null
def ni_pv (e : ni_E) (k : Nat) (v : Value) : ni_E := match e with
  | .inr (c, fs) => .inr (c, fs.set k v)
  | .inl x => .inl x
def ni_rc (e : ni_E) (c : Nat) : Bool := match e with
  | .inr (c', _) => Nat.beq c' c
  | .inl _ => false
/-- arrays of ints (10, 11: those of the outside), of longs, of references -/
def ni_okI (e : ni_E) (i : Int32) : Bool := match e with
  | .inl (t, n, .inl _) => (Nat.beq t 0 || Nat.beq t 10) && ni_in i n
  | _ => false
def ni_okS (e : ni_E) (i : Int32) : Bool := match e with
  | .inl (t, n, .inl _) => Nat.beq t 0 && ni_in i n
  | _ => false
def ni_okB (e : ni_E) (i : Int32) : Bool := match e with
  | .inl (t, n, .inl _) => Nat.beq t 11 && ni_in i n
  | _ => false
def ni_gi (e : ni_E) (i : Int32) : Int32 := match e with
  | .inl (_, _, .inl f) => f i.toNatClampNeg
  | _ => 0
def ni_pi (e : ni_E) (i : Int32) (x : Int32) : ni_E := match e with
  | .inl (t, n, .inl f) => .inl (t, n, .inl (upd f i.toNatClampNeg x))
  | e => e
def ni_okL (e : ni_E) (i : Int32) : Bool := match e with
  | .inl (t, n, .inr (.inl _)) => Nat.beq t 1 && ni_in i n
  | _ => false
def ni_gl (e : ni_E) (i : Int32) : Int64 := match e with
  | .inl (_, _, .inr (.inl f)) => f i.toNatClampNeg
  | _ => 0
def ni_pl (e : ni_E) (i : Int32) (x : Int64) : ni_E := match e with
  | .inl (t, n, .inr (.inl f)) => .inl (t, n, .inr (.inl (vp_updL f i.toNatClampNeg x)))
  | e => e
def ni_okA (e : ni_E) (i : Int32) : Bool := match e with
  | .inl (t, n, .inr (.inr _)) => (Nat.beq t 2 || Nat.beq t 3) && ni_in i n
  | _ => false
def ni_ga (e : ni_E) (i : Int32) : Value := match e with
  | .inl (_, _, .inr (.inr l)) => va_rf (l.getD i.toNatClampNeg none)
  | _ => .null
def ni_pa (e : ni_E) (i : Int32) (x : Nat) : ni_E := match e with
  | .inl (t, n, .inr (.inr l)) => .inl (t, n, .inr (.inr (l.set i.toNatClampNeg (some x))))
  | e => e
def ni_arr (e : ni_E) : Bool := match e with
  | .inl (t, _) => !(Nat.beq t 9)
  | _ => false
def ni_len (e : ni_E) : Nat := match e with
  | .inl (_, n, _) => n
  | _ => 0
/-- the class of the objects that an array of kind t holds -/
def ni_elt (t : Nat) : Nat := if t = 2 then 4 else 1
def ni_tag (e : ni_E) : Nat := match e with
  | .inl (t, _) => t
  | _ => 99
def ni_ll (e : ni_E) : Nat := match e with
  | .inl (_, _, .inr (.inr l)) => l.length
  | _ => 0
/-- locals: a long takes two places, the second holds retAddr 1; retAddr 0: nothing known -/
def ni_kl : Value → Value
  | .long _ => .retAddr 0
  | .double _ => .retAddr 0
  | v => v
def ni_sto : Nat → Value → List Value → List Value
  | 0, v, _ :: L => v :: L
  | 1, v, a :: _ :: L => ni_kl a :: v :: L
  | k + 2, v, a :: L => a :: ni_sto (k + 1) v L
  | _, _, L => L
def ni_br (c : Jvm.ClassFile.Cond) (x y : Int32) (a b : Nat) : Nat := match c with
  | .eq => if x = y then a else b
  | .ne => if x = y then b else a
  | .lt => if x < y then a else b
  | .ge => if y ≤ x then a else b
  | .gt => if y < x then a else b
  | .le => if x ≤ y then a else b
abbrev ni_F : Type := Nat × List Value × List Value
def ni_ldi (i pc : Nat) (ls st : List Value) : Option ni_F := match ls[i]? with
  | some (.int x) => some (pc, ls, .int x :: st)
  | _ => none
def ni_lda (i pc : Nat) (ls st : List Value) : Option ni_F := match ls[i]? with
  | some (.ref x) => some (pc, ls, .ref x :: st)
  | some .null => some (pc, ls, .null :: st)
  | _ => none
def ni_ldl (i pc : Nat) (ls st : List Value) : Option ni_F := match ls[i]? with
  | some (.long x) => some (pc, ls, .long x :: st)
  | _ => none
def ni_sti (i pc : Nat) (ls st : List Value) : Option ni_F := match st with
  | .int x :: r => if Nat.ble (i + 1) ls.length then some (pc, ni_sto i (.int x) ls, r) else none
  | _ => none
def ni_sta (i pc : Nat) (ls st : List Value) : Option ni_F := match st with
  | .ref x :: r => if Nat.ble (i + 1) ls.length then some (pc, ni_sto i (.ref x) ls, r) else none
  | .null :: r => if Nat.ble (i + 1) ls.length then some (pc, ni_sto i .null ls, r) else none
  | _ => none
def ni_stl (i pc : Nat) (ls st : List Value) : Option ni_F := match st with
  | .long x :: r => if Nat.ble (i + 2) ls.length then some (pc, (ni_sto i (.long x) ls).set (i + 1) (.retAddr 1), r) else none
  | _ => none
def ni_b2 (f : Int32 → Int32 → Int32) (pc : Nat) (ls st : List Value) : Option ni_F := match st with
  | .int y :: .int x :: r => some (pc, ls, .int (f x y) :: r)
  | _ => none
def ni_l2 (f : Int64 → Int64 → Int64) (pc : Nat) (ls st : List Value) : Option ni_F := match st with
  | .long y :: .long x :: r => some (pc, ls, .long (f x y) :: r)
  | _ => none
def ni_u1 (f : Int32 → Value) (pc : Nat) (ls st : List Value) : Option ni_F := match st with
  | .int x :: r => some (pc, ls, f x :: r)
  | _ => none
/-- the target of a switch -/
def ni_tsw (dflt lo hi : Int) (offs : Array Int) (x : Int32) (pc : Nat) : Option Nat :=
  let off := if x.toInt < lo ∨ hi < x.toInt then some dflt else offs[(x.toInt - lo).toNat]?
  match off with
  | some o => if 0 ≤ (pc : Int) + o then some ((pc : Int) + o).toNat else none
  | none => none
def ni_lsw (dflt : Int) (ps : Array (Int × Int)) (x : Int32) (pc : Nat) : Option Nat :=
  if (ps.toList.zip (ps.toList.drop 1)).all (fun (a, next) => a.1 < next.1) = true then
    let o := Op.lookupswitch.offset ps.toList dflt x.toInt
    if 0 ≤ (pc : Int) + o then some ((pc : Int) + o).toNat else none
  else none
/-- instructions that touch locals and stack alone; a: a branch's target -/
def ni_p (ins : Instr) (len a pc : Nat) (ls st : List Value) : Option ni_F := match ins with
  | .iconst i => some (pc + len, ls, .int (Int32.ofInt i) :: st)
  | .bipush i => some (pc + len, ls, .int (Int8.ofInt i).toInt32 :: st)
  | .sipush i => some (pc + len, ls, .int (Int16.ofInt i).toInt32 :: st)
  | .lconst i => some (pc + len, ls, .long (Int64.ofNat (i : Nat)) :: st)
  | .aconst_null => some (pc + len, ls, .null :: st)
  | .iload i => ni_ldi i (pc + len) ls st
  | .iload_n i => ni_ldi (i : Nat) (pc + len) ls st
  | .aload i => ni_lda i (pc + len) ls st
  | .aload_n i => ni_lda (i : Nat) (pc + len) ls st
  | .lload_n i => ni_ldl (i : Nat) (pc + len) ls st
  | .istore i => ni_sti i (pc + len) ls st
  | .istore_n i => ni_sti (i : Nat) (pc + len) ls st
  | .astore i => ni_sta i (pc + len) ls st
  | .astore_n i => ni_sta (i : Nat) (pc + len) ls st
  | .lstore_n i => ni_stl (i : Nat) (pc + len) ls st
  | .iinc i n => match ls[i]? with
    | some (.int x) => some (pc + len, ni_sto i (.int (x + Int32.ofInt n)) ls, st)
    | _ => none
  | .iadd => ni_b2 (fun x y => x + y) (pc + len) ls st
  | .isub => ni_b2 (fun x y => x - y) (pc + len) ls st
  | .imul => ni_b2 (fun x y => x * y) (pc + len) ls st
  | .iand => ni_b2 (fun x y => x &&& y) (pc + len) ls st
  | .ior => ni_b2 (fun x y => x ||| y) (pc + len) ls st
  | .ixor => ni_b2 (fun x y => x ^^^ y) (pc + len) ls st
  | .ishl => ni_b2 (fun x y => x <<< (y &&& 31)) (pc + len) ls st
  | .ishr => ni_b2 (fun x y => x >>> (y &&& 31)) (pc + len) ls st
  | .iushr => ni_b2 (fun x y => (x.toUInt32 >>> (y.toUInt32 &&& Int32.toUInt32 31)).toInt32) (pc + len) ls st
  | .ineg => ni_u1 (fun x => .int (-x)) (pc + len) ls st
  | .i2l => ni_u1 (fun x => .long x.toInt64) (pc + len) ls st
  | .i2b => ni_u1 (fun x => .int x.toInt8.toInt32) (pc + len) ls st
  | .i2s => ni_u1 (fun x => .int x.toInt16.toInt32) (pc + len) ls st
  | .i2c => ni_u1 (fun x => .int (x.toUInt32 % 65536).toInt32) (pc + len) ls st
  | .l2i => match st with
    | .long x :: r => some (pc + len, ls, .int x.toInt32 :: r)
    | _ => none
  | .ladd => ni_l2 (fun x y => x + y) (pc + len) ls st
  | .lmul => ni_l2 (fun x y => x * y) (pc + len) ls st
  | .land => ni_l2 (fun x y => x &&& y) (pc + len) ls st
  | .lor => ni_l2 (fun x y => x ||| y) (pc + len) ls st
  | .lshl => match st with
    | .int y :: .long x :: r => some (pc + len, ls, .long (x <<< (y.toInt64 &&& 63)) :: r)
    | _ => none
  | .lcmp => match st with
    | .long y :: .long x :: r => some (pc + len, ls, .int (lg_cmp x y) :: r)
    | _ => none
  | .dup => match st with
    | v :: r => if Nat.beq v.category 1 then some (pc + len, ls, v :: v :: r) else none
    | _ => none
  | .pop => match st with
    | v :: r => if Nat.beq v.category 1 then some (pc + len, ls, r) else none
    | _ => none
  | .dup_x1 => match st with
    | v :: w :: r => if Nat.beq v.category 1 && Nat.beq w.category 1 then some (pc + len, ls, v :: w :: v :: r) else none
    | _ => none
  | .dup2 => match st with
    | v :: w :: r => if Nat.beq v.category 1 && Nat.beq w.category 1 then some (pc + len, ls, v :: w :: v :: w :: r) else none
    | _ => none
  | .goto _ => some (a, ls, st)
  | .if_icmp c _ => match st with
    | .int y :: .int x :: r => some (ni_br c x y a (pc + len), ls, r)
    | _ => none
  | .ifCond c _ => match st with
    | .int x :: r => some (ni_br c x 0 a (pc + len), ls, r)
    | _ => none
  | .ifnull _ => match st with
    | .null :: r => some (a, ls, r)
    | .ref _ :: r => some (pc + len, ls, r)
    | _ => none
  | .ifnonnull _ => match st with
    | .null :: r => some (pc + len, ls, r)
    | .ref _ :: r => some (a, ls, r)
    | _ => none
  | .tableswitch dflt lo hi offs => match st with
    | .int x :: r => match ni_tsw dflt lo hi offs x pc with
      | some t => some (t, ls, r)
      | none => none
    | _ => none
  | .lookupswitch dflt ps => match st with
    | .int x :: r => match ni_lsw dflt ps x pc with
      | some t => some (t, ls, r)
      | none => none
    | _ => none
  | _ => none
/-- what may be put into a field -/
def ni_fit (ty : FieldType) (v : Value) : Bool := decide (narrow ty v = v) && fits ty v
def ni_cpy (e0 e1 : ni_E) (sp dp n : Int32) : Option ni_E := match e0, e1 with
  | .inl (0, n0, .inl f), .inl (0, n1, .inl g) =>
    if decide (sp < 0) || decide (dp < 0) || decide (n < 0) || !(Nat.ble (sp.toNatClampNeg + n.toNatClampNeg) n0) || !(Nat.ble (dp.toNatClampNeg + n.toNatClampNeg) n1) then none
    else some (.inl (0, n1, .inl (va_cpy f g sp.toNatClampNeg dp.toNatClampNeg n.toNatClampNeg)))
  | .inl (1, n0, .inr (.inl f)), .inl (1, n1, .inr (.inl g)) =>
    if decide (sp < 0) || decide (dp < 0) || decide (n < 0) || !(Nat.ble (sp.toNatClampNeg + n.toNatClampNeg) n0) || !(Nat.ble (dp.toNatClampNeg + n.toNatClampNeg) n1) then none
    else some (.inl (1, n1, .inr (.inl (va_cpy f g sp.toNatClampNeg dp.toNatClampNeg n.toNatClampNeg))))
  | _, _ => none
/-- the words that a stack takes -/
def ni_sw (st : List Value) : Nat := (st.map fun v => v.category).sum
/-- instructions that read or write cells, divide, or push what the tables hold (v); a, b: class and field, or the method -/
def ni_h (ins : Instr) (a b : Nat) (v : Value) (ty : FieldType) (d : Nat) (st : List Value) (h : ni_H) : Option (List Value × ni_H) := match ins with
  | .ldc _ => some (v :: st, h)
  | .ldc_w _ => some (v :: st, h)
  | .ldc2_w _ => some (v :: st, h)
  | .getstatic _ => some (v :: st, h)
  | .getfield _ => match st with
    | .ref o :: r => if ni_is (h o) a b = true then some (ni_gv (h o) b :: r, h) else none
    | _ => none
  | .putfield _ => match st with
    | w :: .ref o :: r => if (Nat.ble a 7 && ni_is (h o) a b && ni_fit ty w) = true then some (r, ni_up h o (ni_pv (h o) b w)) else none
    | _ => none
  | .iaload => match st with
    | .int i :: .ref o :: r => if ni_okI (h o) i = true then some (.int (ni_gi (h o) i) :: r, h) else none
    | _ => none
  | .baload => match st with
    | .int i :: .ref o :: r => if ni_okB (h o) i = true then some (.int (ni_gi (h o) i) :: r, h) else none
    | _ => none
  | .laload => match st with
    | .int i :: .ref o :: r => if ni_okL (h o) i = true then some (.long (ni_gl (h o) i) :: r, h) else none
    | _ => none
  | .aaload => match st with
    | .int i :: .ref o :: r => if ni_okA (h o) i = true then some (ni_ga (h o) i :: r, h) else none
    | _ => none
  | .iastore => match st with
    | .int x :: .int i :: .ref o :: r => if ni_okS (h o) i = true then some (r, ni_up h o (ni_pi (h o) i x)) else none
    | _ => none
  | .lastore => match st with
    | .long x :: .int i :: .ref o :: r => if ni_okL (h o) i = true then some (r, ni_up h o (ni_pl (h o) i x)) else none
    | _ => none
  | .aastore => match st with
    | .ref x :: .int i :: .ref o :: r => if (ni_okA (h o) i && (ni_rc (h x) (ni_elt (ni_tag (h o))) && Nat.ble (i.toNatClampNeg + 1) (ni_ll (h o)))) = true then some (r, ni_up h o (ni_pa (h o) i x)) else none
    | _ => none
  | .arraylength => match st with
    | .ref o :: r => if ni_arr (h o) = true then some (.int (Int32.ofNat (ni_len (h o))) :: r, h) else none
    | _ => none
  | .idiv => match st with
    | .int y :: .int x :: r => if y = 0 then none else some (.int (x / y) :: r, h)
    | _ => none
  | .irem => match st with
    | .int y :: .int x :: r => if y = 0 then none else some (.int (x - x / y * y) :: r, h)
    | _ => none
  | .ldiv => match st with
    | .long y :: .long x :: r => if y = 0 then none else some (.long (x / y) :: r, h)
    | _ => none
  | .invokespecial _ => bif Nat.beq a 901 then (match st with
      | .ref _ :: r => if Nat.ble 1 d && Nat.ble (ni_sw r) 8 then some (r, h) else none
      | _ => none)
    else none
  | .invokestatic _ => bif Nat.beq a 900 then (match st with
      | .int n :: .int dp :: .ref o1 :: .int sp :: .ref o0 :: r => if Nat.ble 1 d && Nat.ble (ni_sw r) 8 then match ni_cpy (h o0) (h o1) sp dp n with
          | some e => some (r, ni_up h o1 e)
          | none => none
        else none
      | _ => none)
    else bif Nat.beq a 902 then (match st with
      | .int x :: r => if Nat.ble 1 d && Nat.ble (ni_sw r) 8 then some (.int (if 0 ≤ x then x else 0 - x) :: r, h) else none
      | _ => none)
    else bif Nat.beq a 903 then (match st with
      | .int y :: .int x :: r => if Nat.ble 1 d && Nat.ble (ni_sw r) 8 then some (.int (if x < y then y else x) :: r, h) else none
      | _ => none)
    else bif Nat.beq a 904 then (match st with
      | .int y :: .int x :: r => if Nat.ble 1 d && Nat.ble (ni_sw r) 8 then some (.int (if y < x then y else x) :: r, h) else none
      | _ => none)
    else none
  | _ => none
/-- making: z = (cells, slots) so far -/
abbrev ni_Z : Type := Nat × Nat
def ni_okv (n : Nat) (v : Value) : Bool := match v with
  | .ref i => Nat.ble (i + 1) n || Nat.ble 1000 i
  | _ => true
def ni_oke (n : Nat) (e : ni_E) : Bool := match e with
  | .inr (_, fs) => fs.all (ni_okv n)
  | .inl (_, _, .inr (.inr l)) => l.all (fun o => match o with | some i => Nat.ble (i + 1) n | none => true)
  | _ => true
/-- all that is known lies below n -/
def ni_ok (n : Nat) (ls st : List Value) (h : ni_H) : Bool := ls.all (ni_okv n) && st.all (ni_okv n) && (List.range n).all (fun i => ni_oke n (h i))
def ni_n (ins : Instr) (a : Nat) (ls st : List Value) (dfs : Nat → List Value) (z : ni_Z) (h : ni_H) : Option (List Value × ni_Z × ni_H) := match ins with
  | .new _ => if (ni_ok z.1 ls st h && Nat.ble (z.1 + 1) 900 && Nat.ble a 7) = true then some (.ref z.1 :: st, (z.1 + 1, z.2 + (dfs a).length), ni_up h z.1 (.inr (a, dfs a))) else none
  | .newarray .int => match st with
    | .int n :: r => if (ni_ok z.1 ls r h && Nat.ble (z.1 + 1) 900 && !decide (n < 0) && Nat.ble n.toNatClampNeg 65536) = true then some (.ref z.1 :: r, (z.1 + 1, z.2 + n.toNatClampNeg), ni_up h z.1 (.inl (0, n.toNatClampNeg, .inl (fun _ => 0)))) else none
    | _ => none
  | .newarray .long => match st with
    | .int n :: r => if (ni_ok z.1 ls r h && Nat.ble (z.1 + 1) 900 && !decide (n < 0) && Nat.ble n.toNatClampNeg 65536) = true then some (.ref z.1 :: r, (z.1 + 1, z.2 + n.toNatClampNeg), ni_up h z.1 (.inl (1, n.toNatClampNeg, .inr (.inl (fun _ => 0))))) else none
    | _ => none
  | .anewarray _ => match st with
    | .int n :: r => if (ni_ok z.1 ls r h && Nat.ble (z.1 + 1) 900 && !decide (n < 0) && Nat.ble n.toNatClampNeg 65536 && (Nat.beq a 2 || Nat.beq a 3)) = true then some (.ref z.1 :: r, (z.1 + 1, z.2 + n.toNatClampNeg), ni_up h z.1 (.inl (a, n.toNatClampNeg, .inr (.inr (List.replicate n.toNatClampNeg none))))) else none
    | _ => none
  | _ => none
/-- a return -/
def ni_r (ret : Option FieldType) (ins : Instr) (st : List Value) : Option (Option Value) := match ins with
  | .return_ => match ret, st with
    | none, [] => some none
    | _, _ => none
  | .ireturn => match ret, st with
    | some ty, [.int v] => if narrow ty (.int v) = .int v then some (some (.int v)) else none
    | _, _ => none
  | .lreturn => match ret, st with
    | some .long, [.long v] => some (some (.long v))
    | _, _ => none
  | .areturn => match ret, st with
    | some (.object _), [.ref v] => some (some (.ref v))
    | some (.object _), [.null] => some (some .null)
    | _, _ => none
  | _ => none
/-- the arguments of a call of n parameters, in their order, and the rest -/
def ni_args : Nat → List Value → List Value → Option (List Value × List Value)
  | 0, acc, st => some (acc, st)
  | n + 1, acc, v :: st => ni_args n (v :: acc) st
  | _ + 1, _, [] => none
/-- the locals at a start -/
def ni_sl (vs : List Value) : List Value := vs.flatMap fun v => if v.category = 2 then [v, .retAddr 1] else [v]
def ni_ent (maxL : Nat) (vs : List Value) : List Value := ni_sl vs ++ List.replicate (maxL - (ni_sl vs).length) (.retAddr 0)
/-- a call: which method, its arguments, the rest; a: the method, b: how many parameters -/
def ni_c (ins : Instr) (cls : Nat) (b : Nat) (st : List Value) (h : ni_H) : Option (List Value × List Value) := match ins with
  | .invokestatic _ => ni_args b [] st
  | .invokevirtual _ => match ni_args (b + 1) [] st with
    | some (.ref o :: vs, r) => if ni_rc (h o) cls = true then some (.ref o :: vs, r) else none
    | _ => none
  | .invokespecial _ => match ni_args (b + 1) [] st with
    | some (.ref o :: vs, r) => some (.ref o :: vs, r)
    | _ => none
  | _ => none
def ni_find {α : Type} : List (Nat × α) → Nat → Option α
  | [], _ => none
  | e :: l, k => bif Nat.beq e.1 k then some e.2 else ni_find l k
