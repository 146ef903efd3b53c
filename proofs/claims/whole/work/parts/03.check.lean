def am_nf (ci : Nat) : Nat := match am_cl[ci]? with
  | some r => r.2.2
  | none => 0
/-! What the tables of part 02 say is so of the Statement's bytes and words: by one computation a method. -/
def am_len (i : Instr) : Nat := match i with
  | .bipush _ => 2 | .iload _ => 2 | .istore _ => 2 | .lload _ => 2 | .lstore _ => 2 | .ldc _ => 2 | .newarray _ => 2
  | .sipush _ => 3 | .ldc_w _ => 3 | .ldc2_w _ => 3 | .ifCond _ _ => 3 | .if_icmp _ _ => 3 | .goto _ => 3 | .getfield _ => 3 | .putfield _ => 3 | .getstatic _ => 3
  | .invokevirtual _ => 3 | .invokestatic _ => 3 | .invokespecial _ => 3 | .new _ => 3 | .anewarray _ => 3 | .iinc _ _ => 3
  | .multianewarray _ _ => 4 | .tableswitch _ _ _ _ => 0 | .lookupswitch _ _ => 0 | _ => 1
def am_own (y : Nat) : String := (am_M y).1.cls
def am_qz (z : Nat) : Option Jvm.Cond := (am_tb.getD (z / 40) [])[z % 40]?
def am_at (z : Nat) (w : Jvm.Cond) : Bool := match am_qz z with
  | some q => decide (q = w) && goodWord w
  | none => false
def am_atN (z : Nat) (w : Jvm.Cond) : Bool := match am_qz z with
  | some q => decide (q = w)
  | none => false
def am_fd (x : Nat) : String × String × String × Bool := match am_cl[x / 100]? with
  | some r => r.2.1 (x % 100)
  | none => ("", "", "", false)
def am_cn (ci : Nat) : String := match am_cl[ci]? with
  | some r => r.1
  | none => ""
def am_sf (x : Nat) : String × String := match x with
  | 1 => ("WheelRide", "BY_NUMBERS")
  | 2 => ("WheelRide$Asks", "KIND_ABOVE")
  | 3 => ("WheelRide$Asks", "SIZE_BODIES")
  | _ => ("WheelRide$Asks", "MARK_BODIES")
def am_chF (y i x z : Nat) : Bool := am_at z (.fieldLink (am_own y) i (am_fd x).1 (am_fd x).2.1 (am_fd x).2.2.1) && (decide (x / 100 < 12) && (decide (x % 100 < am_nf (x / 100)) && decide ((am_fd x).1 = am_cn (x / 100))))
def am_chL (y pc : Nat) (i : Instr) (x z : Nat) : Bool := match i with
  | .ldc k => am_at z (.constant (am_own y) k (am_kI x))
  | .ldc_w k => am_at z (.constant (am_own y) k (am_kI x))
  | .ldc2_w k => am_at z (.constantLong (am_own y) k (am_kL x))
  | .getfield k => am_chF y k x z
  | .putfield k => am_chF y k x z && (!(am_fd x).2.2.2 || (decide ((am_M y).1.name = "<init>") && decide ((am_fd x).1 = am_own y)))
  | .getstatic k => am_at z (.fieldLink (am_own y) k (am_sf x).1 (am_sf x).2 "[I") || am_atN z (.fieldLinkNest (am_own y) k (am_sf x).1 (am_sf x).2 "[I" "WheelRide")
  | .new k => am_at z (.classLink (am_own y) k (am_cn x))
  | .anewarray k => am_at z (.classLink (am_own y) k "WheelRide$Wheel")
  | .multianewarray k _ => am_at z (.classLink (am_own y) k "[[I")
  | .ifCond _ off => decide ((pc : Int) + off = (x : Int))
  | .if_icmp _ off => decide ((pc : Int) + off = (x : Int))
  | .goto off => decide ((pc : Int) + off = (x : Int))
  | .invokevirtual k => am_at z (.methodLink (am_own y) k (am_M x).1)
  | .invokestatic k => if x = 1003 then am_at z (.methodLink (am_own y) k arraycopyName) else (am_at z (.methodLink (am_own y) k (am_M x).1) || am_atN z (.methodLinkNest (am_own y) k (am_M x).1 "WheelRide"))
  | .invokespecial k => if x = 1010 then am_at z (.methodLink (am_own y) k Lib.objectInit) else (am_at z (.methodLink (am_own y) k (am_M x).1) || am_atN z (.methodLinkNest (am_own y) k (am_M x).1 "WheelRide"))
  | _ => true
def am_chD (y pc : Nat) (i : Instr) : Bool := match decode (am_M y).2.1 pc with
  | .ok (j, n) => decide (j = i) && (decide (am_len i = n) || decide (am_len i = 0))
  | .error _ => false
def am_chk (y pc : Nat) (e : am_E) : Bool := am_chD y pc e.1 && am_chL y pc e.1 e.2.1 e.2.2
def am_chA (y : Nat) : Nat → List (Option am_E) → Bool
  | _, [] => true
  | pc, none :: r => am_chA y (pc + 1) r
  | pc, some e :: r => am_chk y pc e && am_chA y (pc + 1) r
def am_chB (y : Nat) : Nat → List (List (Option am_E)) → Bool
  | _, [] => true
  | pc, c :: r => am_chA y pc c && am_chB y (pc + 16) r
def am_chM (a b : Nat) : Bool := (List.range (b - a)).all fun k => am_chB (a + k) 0 (am_cod (a + k))
def am_chS (y a n : Nat) : Bool := am_chB y (16 * a) (((am_cod y).drop a).take n)
/-- of each method -/
def am_chY (y : Nat) : Bool :=
  am_at (am_M y).2.2.2.2.2.2.1 (.code (am_M y).1 (am_M y).2.1 (am_M y).2.2.1 (am_M y).2.2.2.1) &&
  (match (am_M y).2.2.2.2.1 with
   | 0 => am_at (am_M y).2.2.2.2.2.2.2.1 (.static (am_M y).1)
   | 1 => am_at (am_M y).2.2.2.2.2.2.2.1 (.instanceMethod (am_M y).1) && am_at (am_M y).2.2.2.2.2.2.2.2.1 (.selects (am_M y).1.cls (am_M y).1 (am_M y).1)
   | 2 => am_at (am_M y).2.2.2.2.2.2.2.1 (.instanceMethod (am_M y).1) && (decide ((am_M y).1.name = "<init>") && decide ((am_M y).2.2.2.1 = none))
   | _ => false) &&
  am_at (am_M y).2.2.2.2.2.2.2.2.2 (.initialized (am_M y).1.cls) &&
  (decide ((am_M y).1.cls ≠ "java/lang/invoke/MethodHandle") && (decide ((am_M y).1.cls ≠ "java/lang/invoke/VarHandle") && decide ((parseMethodDescriptor (am_M y).1.desc).map (fun d => d.parameters.length) = some (am_M y).2.2.2.2.2.1))) &&
  plainFor (am_M y).1
def am_chYs (a b : Nat) : Bool := (List.range (b - a)).all fun k => am_chY (a + k)
