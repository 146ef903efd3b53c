/-! An abstract machine for this program: cells by number, code by method number; 'am_run' is its big step. What it answers, the JVM answers (parts 05, 06). -/
/-- a cell: an object (class, fields), an array of ints (0 int, 1 boolean; length; contents), an array of references (0 Wheel[], 1 int[][]; length; contents) -/
abbrev am_C : Type := (Nat × List Value) ⊕ ((Nat × Nat × (Nat → Int32)) ⊕ (Nat × Nat × (Nat → Option Nat)))
/-- cells 0 to 4: the script and the static arrays; then those that are made; how many of these, how many places in them -/
abbrev am_H : Type := (Nat → am_C) × Nat × Nat
abbrev am_L : Type := List (Option Value)
abbrev am_R : Type := Nat × am_L × List Value × am_H
def am_set (h : am_H) (a : Nat) (c : am_C) : am_H := (fun k => if k = a then c else h.1 k, h.2)
def am_push (h : am_H) (c : am_C) (n : Nat) : am_H := (fun k => if k = h.2.1 + 5 then c else h.1 k, h.2.1 + 1, h.2.2 + n)
def am_in (h : am_H) (a : Nat) : Bool := decide (a < h.2.1 + 5)
def am_mut (h : am_H) (a : Nat) : Bool := decide (5 ≤ a) && decide (a < h.2.1 + 5)
/-- the kind of a value: 0 int, 1 long, 2 reference -/
def am_vk (v : Value) : Nat := match v with
  | .int _ => 0
  | .long _ => 1
  | .ref _ => 2
  | _ => 3
def am_st (ls : am_L) (i : Nat) (v : Value) : am_L := (List.range ls.length).map fun j => if j = i then some v else if j = i + 1 ∧ v.category = 2 then none else if j + 1 = i then
  (match ls[j]? with
   | some (some w) => if w.category = 2 then none else some w
   | _ => none) else ls.getD j none
def am_ld (t k pc : Nat) (ls : am_L) (st : List Value) (h : am_H) : Option am_R := match ls[k]? with
  | some (some v) => if am_vk v = t then some (pc, ls, v :: st, h) else none
  | _ => none
def am_sv (t k pc : Nat) (ls : am_L) (st : List Value) (h : am_H) : Option am_R := match st with
  | v :: r => if am_vk v = t ∧ k + (if t = 1 then 1 else 0) < ls.length then some (pc, am_st ls k v, r, h) else none
  | _ => none
def am_b2 (f : Int32 → Int32 → Int32) (pc : Nat) (ls : am_L) (st : List Value) (h : am_H) : Option am_R := match st with
  | .int b :: .int a :: r => some (pc, ls, .int (f a b) :: r, h)
  | _ => none
def am_bd (f : Int32 → Int32 → Int32) (pc : Nat) (ls : am_L) (st : List Value) (h : am_H) : Option am_R := match st with
  | .int b :: .int a :: r => if b = 0 then none else some (pc, ls, .int (f a b) :: r, h)
  | _ => none
def am_l2 (f : Int64 → Int64 → Int64) (pc : Nat) (ls : am_L) (st : List Value) (h : am_H) : Option am_R := match st with
  | .long b :: .long a :: r => some (pc, ls, .long (f a b) :: r, h)
  | _ => none
def am_lq (f : Int64 → Int64 → Int64) (pc : Nat) (ls : am_L) (st : List Value) (h : am_H) : Option am_R := match st with
  | .long b :: .long a :: r => if b = 0 then none else some (pc, ls, .long (f a b) :: r, h)
  | _ => none
def am_un (f : Int32 → Value) (pc : Nat) (ls : am_L) (st : List Value) (h : am_H) : Option am_R := match st with
  | .int a :: r => some (pc, ls, f a :: r, h)
  | _ => none
def am_cnd (c : Jvm.ClassFile.Cond) (a b : Int32) : Bool := match c with
  | .eq => decide (a = b)
  | .ne => !decide (a = b)
  | .lt => decide (a < b)
  | .ge => decide (b ≤ a)
  | .gt => decide (b < a)
  | .le => decide (a ≤ b)
def am_jmp (pc : Nat) (off : Int) (ls : am_L) (st : List Value) (h : am_H) : Option am_R := if 0 ≤ (pc : Int) + off then some (((pc : Int) + off).toNat, ls, st, h) else none
/-- an index that is in range -/
def am_ix (i : Int32) (n : Nat) : Bool := !decide (i < 0) && decide (i.toNatClampNeg < n)
def am_get (x pc : Nat) (ls : am_L) (st : List Value) (h : am_H) : Option am_R := match st with
  | .ref a :: r => match h.1 a with
    | .inl (ci, fs) => match fs[x % 100]? with
      | some v => if ci = x / 100 ∧ am_mut h a = true then some (pc, ls, v :: r, h) else none
      | none => none
    | _ => none
  | _ => none
def am_fk (ty : FieldType) (v : Value) : Bool := match ty with
  | .int => decide (am_vk v = 0)
  | .long => decide (am_vk v = 1)
  | .object _ => decide (am_vk v = 2)
  | .array _ => decide (am_vk v = 2)
  | _ => false
def am_put (x pc : Nat) (ls : am_L) (st : List Value) (h : am_H) : Option am_R := match st with
  | v :: .ref a :: r => match h.1 a with
    | .inl (ci, fs) => if ci = x / 100 ∧ x % 100 < fs.length ∧ am_mut h a = true ∧ am_fk (am_ty ci (x % 100)) v = true then some (pc, ls, r, am_set h a (.inl (ci, fs.set (x % 100) v))) else none
    | _ => none
  | _ => none
def am_ald (t pc : Nat) (ls : am_L) (st : List Value) (h : am_H) : Option am_R := match st with
  | .int i :: .ref a :: r => match h.1 a with
    | .inr (.inl (tk, n, f)) => if tk = t ∧ am_in h a = true ∧ am_ix i n = true then some (pc, ls, .int (f i.toNatClampNeg) :: r, h) else none
    | _ => none
  | _ => none
def am_ast (t pc : Nat) (ls : am_L) (st : List Value) (h : am_H) : Option am_R := match st with
  | .int v :: .int i :: .ref a :: r => match h.1 a with
    | .inr (.inl (tk, n, f)) => if tk = t ∧ am_mut h a = true ∧ am_ix i n = true then some (pc, ls, r, am_set h a (.inr (.inl (tk, n, upd f i.toNatClampNeg (if t = 1 then vp_nar .boolean v else v))))) else none
    | _ => none
  | _ => none
def am_qld (pc : Nat) (ls : am_L) (st : List Value) (h : am_H) : Option am_R := match st with
  | .int i :: .ref a :: r => match h.1 a with
    | .inr (.inr (tk, n, f)) => match f i.toNatClampNeg with
      | some b => if tk ≤ 1 ∧ am_mut h a = true ∧ am_ix i n = true then some (pc, ls, .ref b :: r, h) else none
      | none => none
    | _ => none
  | _ => none
def am_qst (pc : Nat) (ls : am_L) (st : List Value) (h : am_H) : Option am_R := match st with
  | .ref b :: .int i :: .ref a :: r => match h.1 a with
    | .inr (.inr (0, n, f)) => match h.1 b with
      | .inl (ci, _) => if ci = 9 ∧ am_mut h b = true ∧ am_mut h a = true ∧ am_ix i n = true then some (pc, ls, r, am_set h a (.inr (.inr (0, n, va_up f i.toNatClampNeg (some b))))) else none
      | _ => none
    | _ => none
  | _ => none
def am_len1 (pc : Nat) (ls : am_L) (st : List Value) (h : am_H) : Option am_R := match st with
  | .ref a :: r => match h.1 a with
    | .inr (.inl (0, n, _)) => if am_in h a = true then some (pc, ls, .int (Int32.ofNat n) :: r, h) else none
    | _ => none
  | _ => none
/-- the default fields of a class -/
def am_dv (ty : FieldType) : Value := defaultValue ty
def am_new (x pc : Nat) (ls : am_L) (st : List Value) (h : am_H) : Option am_R :=
  if x < 12 then some (pc, ls, .ref (h.2.1 + 5) :: st, am_push h (.inl (x, (List.range (am_nf x)).map (fun k => am_dv (am_ty x k)))) (am_nf x)) else none
def am_nwa (t pc : Nat) (ls : am_L) (st : List Value) (h : am_H) : Option am_R := match st with
  | .int n :: r => if n < 0 ∨ 1000 < n.toNatClampNeg then none else some (pc, ls, .ref (h.2.1 + 5) :: r, am_push h (.inr (.inl (t, n.toNatClampNeg, fun _ => 0))) n.toNatClampNeg)
  | _ => none
def am_nwq (pc : Nat) (ls : am_L) (st : List Value) (h : am_H) : Option am_R := match st with
  | .int n :: r => if n < 0 ∨ 1000 < n.toNatClampNeg then none else some (pc, ls, .ref (h.2.1 + 5) :: r, am_push h (.inr (.inr (0, n.toNatClampNeg, fun _ => none))) n.toNatClampNeg)
  | _ => none
def am_nwg (pc : Nat) (ls : am_L) (st : List Value) (h : am_H) : Option am_R := match st with
  | .int k :: .int n :: r => if n < 0 ∨ k < 0 ∨ 1000 < n.toNatClampNeg ∨ 1000 < k.toNatClampNeg then none else
    some (pc, ls, .ref (h.2.1 + 5) :: r, (fun a => if a = h.2.1 + 5 then .inr (.inr (1, n.toNatClampNeg, fun i => if i < n.toNatClampNeg then some (h.2.1 + 6 + i) else none)) else if h.2.1 + 5 < a ∧ a < h.2.1 + 6 + n.toNatClampNeg then .inr (.inl (0, k.toNatClampNeg, fun _ => 0)) else h.1 a, h.2.1 + 1 + n.toNatClampNeg, h.2.2 + n.toNatClampNeg + n.toNatClampNeg * k.toNatClampNeg))
  | _ => none
def am_cats (st : List Value) : Nat := (st.map fun v => v.category).sum
def am_cpy (pc : Nat) (ls : am_L) (st : List Value) (h : am_H) : Option am_R := match st with
  | .int n :: .int dp :: .ref b :: .int sp :: .ref a :: r => match h.1 a, h.1 b with
    | .inr (.inl (0, n0, f)), .inr (.inl (0, n1, g)) =>
      if (¬ sp < 0 ∧ ¬ dp < 0 ∧ ¬ n < 0) ∧ (sp.toNatClampNeg + n.toNatClampNeg ≤ n0 ∧ dp.toNatClampNeg + n.toNatClampNeg ≤ n1) ∧ am_in h a = true ∧ am_mut h b = true ∧ am_cats r ≤ 8 then
        some (pc, ls, r, am_set h b (.inr (.inl (0, n1, va_cpy f g sp.toNatClampNeg dp.toNatClampNeg n.toNatClampNeg)))) else none
    | _, _ => none
  | _ => none
/-- one instruction that is neither a call nor a return; x: a field, a place in the code, a constant; d: how many frames there is room for -/
def am_stp (d pc : Nat) (i : Instr) (x : Nat) (ls : am_L) (st : List Value) (h : am_H) : Option am_R := match i with
  | .iconst n => some (pc + 1, ls, .int (Int32.ofInt n) :: st, h)
  | .bipush n => some (pc + 2, ls, .int (Int8.ofInt n).toInt32 :: st, h)
  | .sipush n => some (pc + 3, ls, .int (Int16.ofInt n).toInt32 :: st, h)
  | .lconst n => some (pc + 1, ls, .long (Int64.ofNat (n : Nat)) :: st, h)
  | .ldc _ => some (pc + 2, ls, .int (am_kI x) :: st, h)
  | .ldc_w _ => some (pc + 3, ls, .int (am_kI x) :: st, h)
  | .ldc2_w _ => some (pc + 3, ls, .long (am_kL x) :: st, h)
  | .iload k => am_ld 0 k (pc + 2) ls st h
  | .iload_n k => am_ld 0 k (pc + 1) ls st h
  | .lload k => am_ld 1 k (pc + 2) ls st h
  | .lload_n k => am_ld 1 k (pc + 1) ls st h
  | .aload_n k => am_ld 2 k (pc + 1) ls st h
  | .istore k => am_sv 0 k (pc + 2) ls st h
  | .istore_n k => am_sv 0 k (pc + 1) ls st h
  | .lstore k => am_sv 1 k (pc + 2) ls st h
  | .lstore_n k => am_sv 1 k (pc + 1) ls st h
  | .astore_n k => am_sv 2 k (pc + 1) ls st h
  | .iinc k n => match ls[k]? with
    | some (some (.int v)) => some (pc + 3, am_st ls k (.int (v + Int32.ofInt n)), st, h)
    | _ => none
  | .iadd => am_b2 (fun a b => a + b) (pc + 1) ls st h
  | .isub => am_b2 (fun a b => a - b) (pc + 1) ls st h
  | .imul => am_b2 (fun a b => a * b) (pc + 1) ls st h
  | .iand => am_b2 (fun a b => a &&& b) (pc + 1) ls st h
  | .ior => am_b2 (fun a b => a ||| b) (pc + 1) ls st h
  | .ixor => am_b2 (fun a b => a ^^^ b) (pc + 1) ls st h
  | .ishl => am_b2 (fun a b => a <<< (b &&& 31)) (pc + 1) ls st h
  | .ishr => am_b2 (fun a b => a >>> (b &&& 31)) (pc + 1) ls st h
  | .iushr => am_b2 (fun a b => (a.toUInt32 >>> (b.toUInt32 &&& Int32.toUInt32 31)).toInt32) (pc + 1) ls st h
  | .idiv => am_bd (fun a b => a / b) (pc + 1) ls st h
  | .irem => am_bd (fun a b => a - a / b * b) (pc + 1) ls st h
  | .ladd => am_l2 (fun a b => a + b) (pc + 1) ls st h
  | .lmul => am_l2 (fun a b => a * b) (pc + 1) ls st h
  | .ldiv => am_lq (fun a b => a / b) (pc + 1) ls st h
  | .lrem => am_lq (fun a b => a - a / b * b) (pc + 1) ls st h
  | .lcmp => match st with
    | .long b :: .long a :: r => some (pc + 1, ls, .int (lg_cmp a b) :: r, h)
    | _ => none
  | .ineg => am_un (fun a => .int (-a)) (pc + 1) ls st h
  | .i2l => am_un (fun a => .long a.toInt64) (pc + 1) ls st h
  | .i2b => am_un (fun a => .int a.toInt8.toInt32) (pc + 1) ls st h
  | .i2s => am_un (fun a => .int a.toInt16.toInt32) (pc + 1) ls st h
  | .l2i => match st with
    | .long a :: r => some (pc + 1, ls, .int a.toInt32 :: r, h)
    | _ => none
  | .dup => match st with
    | v :: r => if v.category = 1 then some (pc + 1, ls, v :: v :: r, h) else none
    | _ => none
  | .dup2 => match st with
    | v :: w :: r => if v.category = 1 ∧ w.category = 1 then some (pc + 1, ls, v :: w :: v :: w :: r, h) else none
    | _ => none
  | .pop => match st with
    | v :: r => if v.category = 1 then some (pc + 1, ls, r, h) else none
    | _ => none
  | .ifCond c _ => match st with
    | .int a :: r => some (if am_cnd c a 0 = true then x else pc + 3, ls, r, h)
    | _ => none
  | .if_icmp c _ => match st with
    | .int b :: .int a :: r => some (if am_cnd c a b = true then x else pc + 3, ls, r, h)
    | _ => none
  | .goto _ => some (x, ls, st, h)
  | .tableswitch dflt lo hi offs => match st with
    | .int v :: r => if v.toInt < lo ∨ hi < v.toInt then am_jmp pc dflt ls r h else match offs[(v.toInt - lo).toNat]? with
      | some off => am_jmp pc off ls r h
      | none => none
    | _ => none
  | .lookupswitch dflt ps => match st with
    | .int v :: r => if (ps.toList.zip (ps.toList.drop 1)).all (fun (a, next) => a.1 < next.1) = true then am_jmp pc (Op.lookupswitch.offset ps.toList dflt v.toInt) ls r h else none
    | _ => none
  | .getfield _ => am_get x (pc + 3) ls st h
  | .putfield _ => am_put x (pc + 3) ls st h
  | .getstatic _ => if 1 ≤ x ∧ x ≤ 4 then some (pc + 3, ls, .ref x :: st, h) else none
  | .iaload => am_ald 0 (pc + 1) ls st h
  | .baload => am_ald 1 (pc + 1) ls st h
  | .iastore => am_ast 0 (pc + 1) ls st h
  | .bastore => am_ast 1 (pc + 1) ls st h
  | .aaload => am_qld (pc + 1) ls st h
  | .aastore => am_qst (pc + 1) ls st h
  | .arraylength => am_len1 (pc + 1) ls st h
  | .new _ => am_new x (pc + 3) ls st h
  | .newarray .int => am_nwa 0 (pc + 2) ls st h
  | .newarray .boolean => am_nwa 1 (pc + 2) ls st h
  | .anewarray _ => am_nwq (pc + 3) ls st h
  | .multianewarray _ 2 => am_nwg (pc + 4) ls st h
  | .invokestatic _ => if x = 1003 ∧ 1 ≤ d then am_cpy (pc + 3) ls st h else none
  | .invokespecial _ => match st with
    | .ref _ :: r => if x = 1010 ∧ 1 ≤ d ∧ am_cats r ≤ 8 then some (pc + 3, ls, r, h) else none
    | _ => none
  | _ => none
/-- the locals at a method's start -/
def am_sl : List Value → am_L
  | [] => []
  | v :: r => if v.category = 2 then some v :: none :: am_sl r else some v :: am_sl r
def am_ent (vs : List Value) (n : Nat) : am_L := am_sl vs ++ List.replicate (n - (am_sl vs).length) none
/-- is it a call of a method of the program's? 0 no; 1 yes -/
def am_isC (i : Instr) (x : Nat) : Bool := match i with
  | .invokevirtual _ => decide (x < 1000)
  | .invokestatic _ => decide (x < 1000)
  | .invokespecial _ => decide (x < 1000)
  | _ => false
/-- how many values a call takes -/
def am_ka (x : Nat) : Nat := (am_M x).2.2.2.2.2.1 + (if (am_M x).2.2.2.2.1 = 0 then 0 else 1)
/-- a call's arguments (receiver first), what is left, if all is as it must be -/
def am_arg (i : Instr) (x : Nat) (st : List Value) (h : am_H) : Option (List Value × List Value) :=
  let m := am_M x
  let k := am_ka x
  let vs := (st.take k).reverse
  let r := st.drop k
  if x < 239 ∧ k ≤ st.length ∧ am_cats r ≤ 8 ∧ (am_sl vs).length ≤ m.2.2.1 ∧ m.2.2.1 ≤ 20 then
    match i, m.2.2.2.2.1 with
    | .invokestatic _, 0 => some (vs, r)
    | .invokevirtual _, 1 => match vs with
      | .ref b :: _ => match h.1 b with
        | .inl (ci, _) => if am_mut h b = true ∧ (am_cl[ci]?.map fun q => q.1) = some m.1.cls then some (vs, r) else none
        | _ => none
      | _ => none
    | .invokespecial _, 2 => match vs with
      | .ref _ :: _ => some (vs, r)
      | _ => none
    | _, _ => none
  else none
/-- what a return gives -/
def am_ret (y : Nat) (i : Instr) (st : List Value) : Option (Option Value) := match i, (am_M y).2.2.2.1, st with
  | .ireturn, some .int, [.int v] => some (some (.int v))
  | .ireturn, some .boolean, [.int v] => if v = 0 ∨ v = 1 then some (some (.int v)) else none
  | .lreturn, some .long, [.long v] => some (some (.long v))
  | .return_, none, [] => some none
  | _, _, _ => none
/-- the big step: n instructions at most, d frames at most; method y at pc -/
def am_run : Nat → Nat → Nat → Nat → am_L → List Value → am_H → Option (Option Value × am_H)
  | 0, _, _, _, _, _, _ => none
  | n + 1, d, y, pc, ls, st, h => match am_P y pc with
    | none => none
    | some (i, x, _) =>
      if am_isC i x = true then
        match d with
        | 0 => none
        | d' + 1 => match am_arg i x st h with
          | none => none
          | some (vs, r) => match am_run n d' x 0 (am_ent vs (am_M x).2.2.1) [] h with
            | none => none
            | some (v, h') => am_run n (d' + 1) y (pc + 3) ls (v.toList ++ r) h'
      else match am_ret y i st with
        | some v => some (v, h)
        | none => match am_stp d pc i x ls st h with
          | none => none
          | some (pc', ls', st', h') => am_run n d y pc' ls' st' h'
