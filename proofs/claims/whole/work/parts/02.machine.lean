/-! ===== the abstract machine: the cells that the law's run makes, numbered from 0; what was there before, from jx_big on ===== -/
def jx_big : Nat := 4294967296
/-- a cell: an array (number of its type, length, contents) or an object (number of its class, fields) -/
abbrev jx_C : Type := (Nat × Nat × (Nat → Value)) ⊕ (Nat × List Value)
abbrev jx_H : Type := List jx_C
abbrev jx_L : Type := List (Option Value)
/-- a frame: pc, locals, operand stack, heap -/
abbrev jx_F : Type := Nat × jx_L × List Value × jx_H
/-- what an instruction does: on to a frame; a call (method, arguments, what stays on the stack); a return; a throw -/
abbrev jx_A : Type := jx_F ⊕ ((Nat × List Value × List Value) ⊕ (Option Value ⊕ (Nat × jx_H)))
/-- the tables, one a row: fld: the number of a field: the method's class, the constant's number, the object's class; nw: the class that 'new' makes; an: the array type that 'anewarray' makes; kc: constants; sv: statics; cv: calls on an object: how many arguments, and by its class the method; cp: the same, by invokespecial; cs: static calls; ct: casts; tk: what an array may take; xc: exceptions that are made and thrown: the constructor's constant, the class; oi: Object's own constructor; bi: Math.max, Math.min; ay: array types by newarray's operand; nf: the fields of a new object; ns: how many slots an object has; ft: types of fields; fm: by the method's class, may a field be written: false everywhere, true by the constructors of that class; wr: which cells may be written; ty: types of arrays' elements; ocl: what was there before: classes; ofl: fields; oar: arrays ; no: how many of them, counted from the first, differ from each other; up to where those behind these differ from each other; how many there are -/
abbrev jx_T : Type := (Nat → Nat → Nat → Option Nat) × (Nat → Nat → Option Nat) × (Nat → Nat → Option Nat) × (Nat → Nat → Option Value) × (Nat → Nat → Option Value) × (Nat → Nat → Option (Nat × (Nat → Option Nat))) × (Nat → Nat → Option (Nat × (Nat → Option Nat))) × (Nat → Nat → Option (Nat × Nat)) × (Nat → Nat → Nat → Option Bool) × (Nat → Nat → Bool) × (Nat → Nat → Option (Nat × Nat)) × (Nat → Nat → Bool) × (Nat → Nat → Option Nat) × (ArrayType → Option Nat) × (Nat → List Value) × (Nat → Nat) × (Nat → Nat → Option FieldType) × (Nat → Nat → Nat → Option Bool) × (Nat → Bool) × (Nat → Option FieldType) × (Nat → Option Nat) × (Nat → Nat → Option Value) × (Nat → Option (Nat × Nat × (Nat → Value))) × (Nat × Nat × Nat)
def jx_fld (T : jx_T) : Nat → Nat → Nat → Option Nat := T.1
def jx_nw (T : jx_T) : Nat → Nat → Option Nat := T.2.1
def jx_an (T : jx_T) : Nat → Nat → Option Nat := T.2.2.1
def jx_kc (T : jx_T) : Nat → Nat → Option Value := T.2.2.2.1
def jx_sv (T : jx_T) : Nat → Nat → Option Value := T.2.2.2.2.1
def jx_cv (T : jx_T) : Nat → Nat → Option (Nat × (Nat → Option Nat)) := T.2.2.2.2.2.1
def jx_cp (T : jx_T) : Nat → Nat → Option (Nat × (Nat → Option Nat)) := T.2.2.2.2.2.2.1
def jx_cs (T : jx_T) : Nat → Nat → Option (Nat × Nat) := T.2.2.2.2.2.2.2.1
def jx_ct (T : jx_T) : Nat → Nat → Nat → Option Bool := T.2.2.2.2.2.2.2.2.1
def jx_tk (T : jx_T) : Nat → Nat → Bool := T.2.2.2.2.2.2.2.2.2.1
def jx_xc (T : jx_T) : Nat → Nat → Option (Nat × Nat) := T.2.2.2.2.2.2.2.2.2.2.1
def jx_oi (T : jx_T) : Nat → Nat → Bool := T.2.2.2.2.2.2.2.2.2.2.2.1
def jx_bi (T : jx_T) : Nat → Nat → Option Nat := T.2.2.2.2.2.2.2.2.2.2.2.2.1
def jx_ay (T : jx_T) : ArrayType → Option Nat := T.2.2.2.2.2.2.2.2.2.2.2.2.2.1
def jx_nf (T : jx_T) : Nat → List Value := T.2.2.2.2.2.2.2.2.2.2.2.2.2.2.1
def jx_ns (T : jx_T) : Nat → Nat := T.2.2.2.2.2.2.2.2.2.2.2.2.2.2.2.1
def jx_ft (T : jx_T) : Nat → Nat → Option FieldType := T.2.2.2.2.2.2.2.2.2.2.2.2.2.2.2.2.1
def jx_fm (T : jx_T) : Nat → Nat → Nat → Option Bool := T.2.2.2.2.2.2.2.2.2.2.2.2.2.2.2.2.2.1
def jx_wr (T : jx_T) : Nat → Bool := T.2.2.2.2.2.2.2.2.2.2.2.2.2.2.2.2.2.2.1
def jx_ty (T : jx_T) : Nat → Option FieldType := T.2.2.2.2.2.2.2.2.2.2.2.2.2.2.2.2.2.2.2.1
def jx_ocl (T : jx_T) : Nat → Option Nat := T.2.2.2.2.2.2.2.2.2.2.2.2.2.2.2.2.2.2.2.2.1
def jx_ofl (T : jx_T) : Nat → Nat → Option Value := T.2.2.2.2.2.2.2.2.2.2.2.2.2.2.2.2.2.2.2.2.2.1
def jx_oar (T : jx_T) : Nat → Option (Nat × Nat × (Nat → Value)) := T.2.2.2.2.2.2.2.2.2.2.2.2.2.2.2.2.2.2.2.2.2.2.1
def jx_no (T : jx_T) : Nat × Nat × Nat := T.2.2.2.2.2.2.2.2.2.2.2.2.2.2.2.2.2.2.2.2.2.2.2
def jx_isI : Value → Bool
  | .int _ => true
  | _ => false
def jx_isJ : Value → Bool
  | .long _ => true
  | _ => false
def jx_isA : Value → Bool
  | .ref _ => true
  | .null => true
  | _ => false
def jx_kill (lo : jx_L) : Nat → jx_L
  | 0 => lo
  | k + 1 => match lo[k]? with
    | some (some w) => if w.category = 2 then lo.set k none else lo
    | _ => lo
def jx_st1 (lo : jx_L) (i : Nat) (v : Value) : jx_L := (jx_kill lo i).set i (some v)
def jx_st2 (lo : jx_L) (i : Nat) (v : Value) : jx_L := ((jx_kill lo i).set i (some v)).set (i + 1) none
/-- the class of what a reference names; its field; its contents as an array -/
def jx_cls (T : jx_T) (h : jx_H) (a : Nat) : Option Nat := if a < jx_big then (match h[a]? with
    | some (.inr o) => some o.1
    | _ => none) else jx_ocl T (a - jx_big)
def jx_get (T : jx_T) (h : jx_H) (a k : Nat) : Option Value := if a < jx_big then (match h[a]? with
    | some (.inr o) => o.2[k]?
    | _ => none) else jx_ofl T (a - jx_big) k
def jx_arr (T : jx_T) (h : jx_H) (a : Nat) : Option (Nat × Nat × (Nat → Value)) := if a < jx_big then (match h[a]? with
    | some (.inl x) => some x
    | _ => none) else jx_oar T (a - jx_big)
def jx_sz (T : jx_T) : jx_C → Nat
  | .inl x => x.2.1
  | .inr o => jx_ns T o.1
def jx_vol (T : jx_T) (h : jx_H) : Nat := (h.map (jx_sz T)).sum
def jx_len : Instr → Nat
  | .aload _ | .astore _ | .iload _ | .istore _ | .lload _ | .lstore _ | .bipush _ | .ldc _ | .newarray _ => 2
  | .anewarray _ | .checkcast _ | .getfield _ | .getstatic _ | .goto _ | .if_acmp _ _ | .if_icmp _ _ | .ifCond _ _ | .ifnonnull _ | .ifnull _ | .iinc _ _ | .instanceof _ | .invokespecial _ | .invokestatic _ | .invokevirtual _ | .ldc2_w _ | .new _ | .putfield _ | .sipush _ => 3
  | _ => 1
def jx_isSwitch : Instr → Bool
  | .tableswitch _ _ _ _ => true
  | .lookupswitch _ _ => true
  | _ => false
def jx_hold : Jvm.ClassFile.Cond → Int32 → Int32 → Bool
  | .eq, x, y => x == y
  | .ne, x, y => !(x == y)
  | .lt, x, y => decide (x < y)
  | .ge, x, y => decide (y ≤ x)
  | .gt, x, y => decide (y < x)
  | .le, x, y => decide (x ≤ y)
def jx_holdA : ACond → Bool → Bool
  | .eq, b => b
  | .ne, b => !b
/-- two references that differ lead to two cells -/
def jx_ne (T : jx_T) (x y : Nat) : Bool := (decide (x < jx_big + (jx_no T).2.2) && decide (y < jx_big)) || ((decide (y < jx_big + (jx_no T).2.2) && decide (x < jx_big)) || ((decide (x < jx_big + (jx_no T).1) && decide (y < jx_big + (jx_no T).1)) || (decide (jx_big + (jx_no T).1 ≤ x) && (decide (x < jx_big + (jx_no T).2.1) && (decide (jx_big + (jx_no T).1 ≤ y) && decide (y < jx_big + (jx_no T).2.1))))))
/-- where a branch goes -/
def jx_to (pc : Nat) (off : Int) : Option Nat := if 0 ≤ (pc : Int) + off then some ((pc : Int) + off).toNat else none
def jx_go (pc : Nat) (off : Int) (lo : jx_L) (st : List Value) (h : jx_H) : Option jx_A := match jx_to pc off with
  | some t => some (.inl (t, lo, st, h))
  | none => none
def jx_br (c : Bool) (pc : Nat) (off : Int) (lo : jx_L) (st : List Value) (h : jx_H) : Option jx_A := if 0 ≤ (pc : Int) + off then (match c with
  | true => jx_go pc off lo st h
  | false => some (.inl (pc + 3, lo, st, h))) else none
def jx_ld (ck : Value → Bool) (i pc' : Nat) (lo : jx_L) (st : List Value) (h : jx_H) : Option jx_A := match lo[i]? with
  | some (some v) => if ck v = true then some (.inl (pc', lo, v :: st, h)) else none
  | _ => none
/-- an index within an array -/
def jx_in (j : Int32) (n : Nat) : Bool := !(decide (j < 0)) && decide (j.toNatClampNeg < n)
/-- a load of an array's element; a store -/
def jx_ald (T : jx_T) (ok : FieldType → Bool) (pc : Nat) (lo : jx_L) (st : List Value) (h : jx_H) : Option jx_A := match st with
  | .int j :: .ref a :: r => match jx_arr T h a with
    | some (t, n, f) => match jx_ty T t with
      | some ty => if (ok ty && jx_in j n) = true then some (.inl (pc + 1, lo, f j.toNatClampNeg :: r, h)) else none
      | none => none
    | none => none
  | _ => none
def jx_ast (T : jx_T) (ok : FieldType → Bool) (v : Value) (j : Int32) (a pc : Nat) (lo : jx_L) (r : List Value) (h : jx_H) : Option jx_A := match h[a]? with
  | some (.inl (t, n, f)) => match jx_ty T t with
    | some ty => if (decide (a < jx_big) && (jx_wr T a && (ok ty && jx_in j n))) = true then some (.inl (pc + 1, lo, r, h.set a (.inl (t, n, updV f j.toNatClampNeg (narrow ty v))))) else none
    | none => none
  | _ => none
/-- may this go into an array of references of type t? -/
def jx_may (T : jx_T) (h : jx_H) (t : Nat) : Value → Bool
  | .null => true
  | .ref a => match jx_cls T h a with
    | some ci => jx_tk T t ci
    | none => false
  | _ => false
def jx_isRefTy : FieldType → Bool
  | .object _ => true
  | _ => false
/-- room for one cell more -/
def jx_more (h : jx_H) (c : jx_C) (pc : Nat) (lo : jx_L) (r : List Value) : Option jx_A := if h.length < jx_big then some (.inl (pc, lo, .ref h.length :: r, h ++ [c])) else none
def jx_newa (T : jx_T) (t : Nat) (n : Int32) (v : Value) (pc : Nat) (lo : jx_L) (r : List Value) (h : jx_H) : Option jx_A :=
  if (!(decide (n < 0)) && decide (n.toNatClampNeg ≤ 60000000)) = true then jx_more h (.inl (t, n.toNatClampNeg, fun _ => v)) pc lo r else none
/-- the arguments lie on the stack, the last one on top -/
def jx_args (n : Nat) (st : List Value) : Option (List Value × List Value) := if n ≤ st.length then some ((st.take n).reverse, st.drop n) else none
def jx_wt (r : List Value) : Bool := decide ((r.map fun v => v.category).sum ≤ 8)
/-- may this be copied into an array of type t? -/
def jx_cpok (T : jx_T) (h : jx_H) (t : Nat) (ty : FieldType) (v : Value) : Bool := fits ty v && (match v with
  | .ref _ => jx_may T h t v
  | _ => true)
/-- System.arraycopy between arrays of one type -/
def jx_cpy (T : jx_T) (n dp : Int32) (a : Nat) (sp : Int32) (a0 pc : Nat) (lo : jx_L) (r : List Value) (h : jx_H) : Option jx_A := match h[a]? with
  | some (.inl (t, n1, g)) => match jx_arr T h a0 with
    | some (t0, n0, f) => match jx_ty T t with
      | some ty => if (decide (t0 = t) && (decide (a < jx_big) && (jx_wr T a && (!(decide (sp < 0)) && (!(decide (dp < 0)) && (!(decide (n < 0)) && (decide (sp.toNatClampNeg + n.toNatClampNeg ≤ n0) && (decide (dp.toNatClampNeg + n.toNatClampNeg ≤ n1) && (jx_wt r && (List.range n.toNatClampNeg).all fun i => jx_cpok T h t ty (f (sp.toNatClampNeg + i))))))))))) = true then some (.inl (pc + 3, lo, r, h.set a (.inl (t, n1, va_cpy f g sp.toNatClampNeg dp.toNatClampNeg n.toNatClampNeg)))) else none
      | none => none
    | none => none
  | _ => none
/-- getClass of an array of type b - 3 -/
def jx_gcl (b a pc : Nat) (lo : jx_L) (r : List Value) (h : jx_H) : Option jx_A := match h[a]? with
  | some (.inl (t, _)) => if (decide (t + 3 = b) && (decide (a < jx_big) && jx_wt r)) = true then some (.inl (pc + 3, lo, .ref (jx_big + 56) :: r, h)) else none
  | _ => none
def jx_do (T : jx_T) (cd : Nat → Option Instr) (own pc : Nat) (rt : Option FieldType × Bool) (i : Instr) (lo : jx_L) (st : List Value) (h : jx_H) : Option jx_A := match i with
  | .aconst_null => some (.inl (pc + 1, lo, .null :: st, h))
  | .iconst n => some (.inl (pc + 1, lo, .int (Int32.ofInt n) :: st, h))
  | .bipush n => some (.inl (pc + 2, lo, .int (Int8.ofInt n).toInt32 :: st, h))
  | .sipush n => some (.inl (pc + 3, lo, .int (Int16.ofInt n).toInt32 :: st, h))
  | .lconst n => some (.inl (pc + 1, lo, .long (Int64.ofNat (n : Nat)) :: st, h))
  | .ldc k => match jx_kc T own k with
    | some (.int x) => some (.inl (pc + 2, lo, .int x :: st, h))
    | some (.ref a) => some (.inl (pc + 2, lo, .ref a :: st, h))
    | _ => none
  | .ldc2_w k => match jx_kc T own k with
    | some (.long x) => some (.inl (pc + 3, lo, .long x :: st, h))
    | _ => none
  | .iload k => jx_ld jx_isI k (pc + 2) lo st h
  | .iload_n k => jx_ld jx_isI k (pc + 1) lo st h
  | .lload k => jx_ld jx_isJ k (pc + 2) lo st h
  | .lload_n k => jx_ld jx_isJ k (pc + 1) lo st h
  | .aload k => jx_ld jx_isA k (pc + 2) lo st h
  | .aload_n k => jx_ld jx_isA k (pc + 1) lo st h
  | .istore k => match st with
    | .int x :: r => if k < lo.length then some (.inl (pc + 2, jx_st1 lo k (.int x), r, h)) else none
    | _ => none
  | .istore_n k => match st with
    | .int x :: r => if (k : Nat) < lo.length then some (.inl (pc + 1, jx_st1 lo k (.int x), r, h)) else none
    | _ => none
  | .lstore k => match st with
    | .long x :: r => if k + 1 < lo.length then some (.inl (pc + 2, jx_st2 lo k (.long x), r, h)) else none
    | _ => none
  | .lstore_n k => match st with
    | .long x :: r => if (k : Nat) + 1 < lo.length then some (.inl (pc + 1, jx_st2 lo k (.long x), r, h)) else none
    | _ => none
  | .astore k => match st with
    | v :: r => if (jx_isA v && decide (k < lo.length)) = true then some (.inl (pc + 2, jx_st1 lo k v, r, h)) else none
    | _ => none
  | .astore_n k => match st with
    | v :: r => if (jx_isA v && decide ((k : Nat) < lo.length)) = true then some (.inl (pc + 1, jx_st1 lo k v, r, h)) else none
    | _ => none
  | .iinc k n => match lo[k]? with
    | some (some (.int x)) => some (.inl (pc + 3, jx_st1 lo k (.int (x + Int32.ofInt n)), st, h))
    | _ => none
  | .iadd => match st with
    | .int y :: .int x :: r => some (.inl (pc + 1, lo, .int (x + y) :: r, h))
    | _ => none
  | .isub => match st with
    | .int y :: .int x :: r => some (.inl (pc + 1, lo, .int (x - y) :: r, h))
    | _ => none
  | .imul => match st with
    | .int y :: .int x :: r => some (.inl (pc + 1, lo, .int (x * y) :: r, h))
    | _ => none
  | .idiv => match st with
    | .int y :: .int x :: r => if y = 0 then none else some (.inl (pc + 1, lo, .int (x / y) :: r, h))
    | _ => none
  | .irem => match st with
    | .int y :: .int x :: r => if y = 0 then none else some (.inl (pc + 1, lo, .int (x - x / y * y) :: r, h))
    | _ => none
  | .iand => match st with
    | .int y :: .int x :: r => some (.inl (pc + 1, lo, .int (x &&& y) :: r, h))
    | _ => none
  | .ior => match st with
    | .int y :: .int x :: r => some (.inl (pc + 1, lo, .int (x ||| y) :: r, h))
    | _ => none
  | .ishl => match st with
    | .int y :: .int x :: r => some (.inl (pc + 1, lo, .int (x <<< (y &&& 31)) :: r, h))
    | _ => none
  | .ishr => match st with
    | .int y :: .int x :: r => some (.inl (pc + 1, lo, .int (x >>> (y &&& 31)) :: r, h))
    | _ => none
  | .iushr => match st with
    | .int y :: .int x :: r => some (.inl (pc + 1, lo, .int (x.toUInt32 >>> (y.toUInt32 &&& Int32.toUInt32 31)).toInt32 :: r, h))
    | _ => none
  | .ineg => match st with
    | .int x :: r => some (.inl (pc + 1, lo, .int (-x) :: r, h))
    | _ => none
  | .i2l => match st with
    | .int x :: r => some (.inl (pc + 1, lo, .long x.toInt64 :: r, h))
    | _ => none
  | .l2i => match st with
    | .long x :: r => some (.inl (pc + 1, lo, .int x.toInt32 :: r, h))
    | _ => none
  | .i2b => match st with
    | .int x :: r => some (.inl (pc + 1, lo, .int x.toInt8.toInt32 :: r, h))
    | _ => none
  | .i2c => match st with
    | .int x :: r => some (.inl (pc + 1, lo, .int (x.toUInt32 % 65536).toInt32 :: r, h))
    | _ => none
  | .ladd => match st with
    | .long y :: .long x :: r => some (.inl (pc + 1, lo, .long (x + y) :: r, h))
    | _ => none
  | .lsub => match st with
    | .long y :: .long x :: r => some (.inl (pc + 1, lo, .long (x - y) :: r, h))
    | _ => none
  | .lmul => match st with
    | .long y :: .long x :: r => some (.inl (pc + 1, lo, .long (x * y) :: r, h))
    | _ => none
  | .ldiv => match st with
    | .long y :: .long x :: r => if y = 0 then none else some (.inl (pc + 1, lo, .long (x / y) :: r, h))
    | _ => none
  | .lrem => match st with
    | .long y :: .long x :: r => if y = 0 then none else some (.inl (pc + 1, lo, .long (x - x / y * y) :: r, h))
    | _ => none
  | .land => match st with
    | .long y :: .long x :: r => some (.inl (pc + 1, lo, .long (x &&& y) :: r, h))
    | _ => none
  | .lor => match st with
    | .long y :: .long x :: r => some (.inl (pc + 1, lo, .long (x ||| y) :: r, h))
    | _ => none
  | .lneg => match st with
    | .long x :: r => some (.inl (pc + 1, lo, .long (-x) :: r, h))
    | _ => none
  | .lshl => match st with
    | .int y :: .long x :: r => some (.inl (pc + 1, lo, .long (x <<< (y.toInt64 &&& 63)) :: r, h))
    | _ => none
  | .lshr => match st with
    | .int y :: .long x :: r => some (.inl (pc + 1, lo, .long (x >>> (y.toInt64 &&& 63)) :: r, h))
    | _ => none
  | .lcmp => match st with
    | .long y :: .long x :: r => some (.inl (pc + 1, lo, .int (lg_cmp x y) :: r, h))
    | _ => none
  | .dup => match st with
    | v :: r => if v.category = 1 then some (.inl (pc + 1, lo, v :: v :: r, h)) else none
    | _ => none
  | .pop => match st with
    | v :: r => if v.category = 1 then some (.inl (pc + 1, lo, r, h)) else none
    | _ => none
  | .dup_x1 => match st with
    | v :: w :: r => if v.category = 1 ∧ w.category = 1 then some (.inl (pc + 1, lo, v :: w :: v :: r, h)) else none
    | _ => none
  | .dup_x2 => match st with
    | v :: w :: z :: r => if v.category = 1 ∧ w.category = 1 ∧ z.category = 1 then some (.inl (pc + 1, lo, v :: w :: z :: v :: r, h)) else none
    | _ => none
  | .dup2 => match st with
    | v :: w :: r => if v.category = 1 ∧ w.category = 1 then some (.inl (pc + 1, lo, v :: w :: v :: w :: r, h)) else none
    | _ => none
  | .goto off => jx_go pc off lo st h
  | .ifCond q off => match st with
    | .int x :: r => jx_br (jx_hold q x 0) pc off lo r h
    | _ => none
  | .if_icmp q off => match st with
    | .int y :: .int x :: r => jx_br (jx_hold q x y) pc off lo r h
    | _ => none
  | .ifnull off => match st with
    | .null :: r => jx_br true pc off lo r h
    | .ref _ :: r => jx_br false pc off lo r h
    | _ => none
  | .ifnonnull off => match st with
    | .null :: r => jx_br false pc off lo r h
    | .ref _ :: r => jx_br true pc off lo r h
    | _ => none
  | .if_acmp ac off => match st with
    | .ref y :: .ref x :: r => if x = y then jx_br (jx_holdA ac true) pc off lo r h else if jx_ne T x y = true then jx_br (jx_holdA ac false) pc off lo r h else none
    | .null :: .ref _ :: r => jx_br (jx_holdA ac false) pc off lo r h
    | .ref _ :: .null :: r => jx_br (jx_holdA ac false) pc off lo r h
    | .null :: .null :: r => jx_br (jx_holdA ac true) pc off lo r h
    | _ => none
  | .tableswitch d lw hi offs => match st with
    | .int x :: r => if x.toInt < lw ∨ hi < x.toInt then jx_go pc d lo r h else (match offs[(x.toInt - lw).toNat]? with
      | some off => jx_go pc off lo r h
      | none => none)
    | _ => none
  | .lookupswitch d ps => match st with
    | .int x :: r => if (ps.toList.zip (ps.toList.drop 1)).all (fun (a, next) => a.1 < next.1) = true then jx_go pc (Op.lookupswitch.offset ps.toList d x.toInt) lo r h else none
    | _ => none
  | .iaload => jx_ald T (fun ty => match ty with | .int => true | _ => false) pc lo st h
  | .laload => jx_ald T (fun ty => match ty with | .long => true | _ => false) pc lo st h
  | .caload => jx_ald T (fun ty => match ty with | .char => true | _ => false) pc lo st h
  | .baload => jx_ald T (fun ty => match ty with | .byte => true | _ => false) pc lo st h
  | .aaload => jx_ald T jx_isRefTy pc lo st h
  | .iastore => match st with
    | .int x :: .int j :: .ref a :: r => jx_ast T (fun ty => match ty with | .int => true | _ => false) (.int x) j a pc lo r h
    | _ => none
  | .lastore => match st with
    | .long x :: .int j :: .ref a :: r => jx_ast T (fun ty => match ty with | .long => true | _ => false) (.long x) j a pc lo r h
    | _ => none
  | .castore => match st with
    | .int x :: .int j :: .ref a :: r => jx_ast T (fun ty => match ty with | .char => true | _ => false) (.int x) j a pc lo r h
    | _ => none
  | .bastore => match st with
    | .int x :: .int j :: .ref a :: r => jx_ast T (fun ty => match ty with | .byte => true | _ => false) (.int x) j a pc lo r h
    | _ => none
  | .aastore => match st with
    | v :: .int j :: .ref a :: r => match jx_arr T h a with
      | some (t, _) => if jx_may T h t v = true then jx_ast T jx_isRefTy v j a pc lo r h else none
      | none => none
    | _ => none
  | .arraylength => match st with
    | .ref a :: r => match jx_arr T h a with
      | some (t, n, _) => match jx_ty T t with
        | some _ => some (.inl (pc + 1, lo, .int (Int32.ofNat n) :: r, h))
        | none => none
      | none => none
    | _ => none
  | .newarray y => match st with
    | .int n :: r => match jx_ay T y with
      | some t => jx_newa T t n (defaultValue (newarray.typeOf y)) (pc + 2) lo r h
      | none => none
    | _ => none
  | .anewarray k => match st with
    | .int n :: r => match jx_an T own k with
      | some t => jx_newa T t n .null (pc + 3) lo r h
      | none => none
    | _ => none
  | .new k => match jx_xc T own k with
    | some (ic, ci) => match st, cd (pc + 3), cd (pc + 4), cd (pc + 7) with
      | [], some .dup, some (.invokespecial ik), some .athrow => if (decide (ik = ic) && decide (h.length < jx_big)) = true then some (.inr (.inr (.inr (h.length, h ++ [.inr (ci, [])])))) else none
      | _, _, _, _ => none
    | none => match jx_nw T own k with
      | some ci => jx_more h (.inr (ci, jx_nf T ci)) (pc + 3) lo st
      | none => none
  | .getfield k => match st with
    | .ref a :: r => match jx_cls T h a with
      | some ci => match jx_fld T own k ci with
        | some f => match jx_get T h a f with
          | some v => some (.inl (pc + 3, lo, v :: r, h))
          | none => none
        | none => none
      | none => none
    | _ => none
  | .putfield k => match st with
    | v :: .ref a :: r => match h[a]? with
      | some (.inr (ci, fs)) => match jx_fld T own k ci with
        | some f => match jx_ft T ci f, jx_fm T own ci f with
          | some ty, some fin => if (decide (a < jx_big) && (jx_wr T a && (fits ty v && (!fin || rt.2)))) = true then some (.inl (pc + 3, lo, r, h.set a (.inr (ci, fs.set f v)))) else none
          | _, _ => none
        | none => none
      | _ => none
    | _ => none
  | .getstatic k => match jx_sv T own k with
    | some v => some (.inl (pc + 3, lo, v :: st, h))
    | none => none
  | .checkcast k => match st with
    | .null :: r => some (.inl (pc + 3, lo, .null :: r, h))
    | .ref a :: r => match jx_cls T h a with
      | some ci => match jx_ct T own k ci with
        | some true => some (.inl (pc + 3, lo, .ref a :: r, h))
        | _ => none
      | none => none
    | _ => none
  | .instanceof k => match st with
    | .null :: r => some (.inl (pc + 3, lo, .int 0 :: r, h))
    | .ref a :: r => match jx_cls T h a with
      | some ci => match jx_ct T own k ci with
        | some true => some (.inl (pc + 3, lo, .int 1 :: r, h))
        | some false => some (.inl (pc + 3, lo, .int 0 :: r, h))
        | none => none
      | none => none
    | _ => none
  | .invokestatic k => match jx_bi T own k with
    | some b => if b = 2 then (match st with
      | .int n :: .int dp :: .ref a :: .int sp :: .ref a0 :: r => jx_cpy T n dp a sp a0 pc lo r h
      | _ => none) else match st with
      | .int y :: .int x :: r => if (jx_wt r && decide (b < 2)) = true then some (.inl (pc + 3, lo, .int (if b = 0 then (if x < y then y else x) else (if y < x then y else x)) :: r, h)) else none
      | _ => none
    | none => match jx_cs T own k with
      | some (m2, n) => match jx_args n st with
        | some (as, r) => if jx_wt r = true then some (.inr (.inl (m2, as, r))) else none
        | none => none
      | none => none
  | .invokevirtual k => match jx_cv T own k with
    | some (n, g) => match jx_args n st with
      | some (as, .ref a :: r) => match jx_cls T h a with
        | some ci => match g ci with
          | some m2 => if jx_wt r = true then some (.inr (.inl (m2, .ref a :: as, r))) else none
          | none => none
        | none => none
      | _ => none
    | none => match jx_bi T own k with
      | some b => match st with
        | .ref a :: r => jx_gcl b a pc lo r h
        | _ => none
      | none => none
  | .invokespecial k => if jx_oi T own k = true then (match st with
      | .ref _ :: r => if jx_wt r = true then some (.inl (pc + 3, lo, r, h)) else none
      | _ => none) else (match jx_cp T own k with
    | some (n, g) => match jx_args n st with
      | some (as, .ref a :: r) => match jx_cls T h a with
        | some ci => match g ci with
          | some m2 => if (jx_wt r && decide (a < jx_big)) = true then some (.inr (.inl (m2, .ref a :: as, r))) else none
          | none => none
        | none => none
      | _ => none
    | none => none)
  | .ireturn => match st, rt.1 with
    | [.int v], some ty => if fits ty (.int v) = true then some (.inr (.inr (.inl (some (.int v))))) else none
    | _, _ => none
  | .lreturn => match st, rt.1 with
    | [.long v], some .long => some (.inr (.inr (.inl (some (.long v)))))
    | _, _ => none
  | .areturn => match st, rt.1 with
    | [v], some ty => if (jx_isA v && fits ty v) = true then some (.inr (.inr (.inl (some v)))) else none
    | _, _ => none
  | .return_ => match st, rt.1 with
    | [], none => some (.inr (.inr (.inl none)))
    | _, _ => none
  | _ => none
/-- a method: the class that declares it, its local variables, what it returns, its instructions, its handlers (where the call stands, the class of what is thrown) -/
abbrev jx_M : Type := Nat × Nat × (Option FieldType × Bool) × (Nat → Option Instr) × (Nat → Nat → Option Nat)
/-- the local variables of a call -/
def jx_lo (l : List Slot) : jx_L := l.map fun z => match z with
  | .val v => some v
  | _ => none
def jx_in0 (n : Nat) (vs : List Value) : jx_L := jx_lo (lg_sl vs ++ List.replicate (n - (lg_sl vs).length) Slot.unset)
abbrev jx_R : Type := jx_H × (Option Value ⊕ Nat)
def jx_one (T : jx_T) (M : Nat → Option jx_M) (ih : Nat → Nat → jx_F → Option jx_R) (d mi : Nat) (F : jx_F) : Option jx_R := match M mi with
  | none => none
  | some (own, _, rt, cd, hd) => match cd F.1 with
    | none => none
    | some i => match jx_do T cd own F.1 rt i F.2.1 F.2.2.1 F.2.2.2 with
      | none => none
      | some (.inl F2) => ih d mi F2
      | some (.inr (.inl (m2, as, r))) => match d, M m2 with
        | d2 + 1, some (_, n2, _, _, _) => if (lg_sl as).length ≤ n2 ∧ m2 < 1000 then (match ih d2 m2 (0, jx_in0 n2 as, [], F.2.2.2) with
          | some (h2, .inl v) => ih d mi (F.1 + 3, F.2.1, v.toList ++ r, h2)
          | some (h2, .inr a) => (match jx_cls T h2 a with
            | some ci => (match hd F.1 ci with
              | some pc2 => ih d mi (pc2, F.2.1, [.ref a], h2)
              | none => none)
            | none => none)
          | none => none) else none
        | _, _ => none
      | some (.inr (.inr (.inl v))) => some (F.2.2.2, .inl v)
      | some (.inr (.inr (.inr (a, h2)))) => some (h2, .inr a)
/-- so many steps deep, so many frames deep -/
noncomputable def jx_ex (T : jx_T) (M : Nat → Option jx_M) (f : Nat) : Nat → Nat → jx_F → Option jx_R := Nat.rec (fun _ _ _ => none) (fun _ ih => jx_one T M ih) f
theorem jx_ex_succ (T : jx_T) (M : Nat → Option jx_M) (f d mi : Nat) (F : jx_F) : jx_ex T M (f + 1) d mi F = jx_one T M (jx_ex T M f) d mi F := rfl
