/-! Order: the orders by numbers; what is skipped was tried before. -/
def lg (l : List Nat) (k : Nat) : Nat := l.getD k 0
def vi (r : Nat → Nat) : Nat → Option Nat
  | 0 => none
  | i + 1 => if r (i + 1) < r i then vi r i else some i
def vj (r : Nat → Nat) (i : Nat) : Nat → Nat
  | 0 => 0
  | j + 1 => if i < j + 1 ∧ r (j + 1) < r i then vj r i j else j + 1
def vsw (r : Nat → Nat) (i j : Nat) : Nat → Nat := fun k => if k = j then r i else if k = i then r j else r k
def vrv : Nat → (Nat → Nat) → Nat → Nat → Nat → Nat
  | 0, r, _, _ => r
  | f + 1, r, a, b => if a < b then vrv f (vsw r a b) (a + 1) (b - 1) else r
def vnx (r : Nat → Nat) (n : Nat) : Option (Nat → Nat) := match vi r (n - 1) with
  | none => none
  | some i => some (vrv 6 (vsw r i (vj r i (n - 1))) (i + 1) (n - 1))
def chn (n : Nat) : List (List Nat) → Bool
  | [] => true
  | [l] => match vnx (lg l) n with
    | none => true
    | some _ => false
  | l :: l' :: r => (match vnx (lg l) n with
    | none => false
    | some q => (List.range 6).all fun k => q k == lg l' k) && chn n (l' :: r)
def swL (l : List Nat) (i : Nat) : List Nat := (List.range 6).map fun k => if k = i then lg l (i + 1) else if k = i + 1 then lg l i else lg l k
def erl (n : Nat) : List (List Nat) → List (List Nat) → Bool
  | _, [] => true
  | pre, l :: r => ((List.range (n - 1)).all fun i => if lg l (i + 1) < lg l i then pre.contains (swL l i) else true) && erl n (l :: pre) r
def vok (n : Nat) (l : List Nat) : Bool := (List.range 6).all fun k => decide (lg l k < 6 ∧ (k < n → lg l k < n) ∧ (n ≤ k → n ≤ lg l k))
set_option maxRecDepth 1000000 in
theorem pm_chn : ((List.range 7).all fun n => chn n (pmt n)) = true := by decide +kernel
set_option maxRecDepth 1000000 in
theorem pm_erl : ((List.range 7).all fun n => erl n [] (pmt n)) = true := by decide +kernel
set_option maxRecDepth 1000000 in
theorem pm_vok : ((List.range 7).all fun n => (pmt n).all (vok n)) = true := by decide +kernel
set_option maxRecDepth 1000000 in
theorem pm_len : ((List.range 7).all fun n => decide ((pmt n).length ≤ 720) && decide ((pmt n).head? = some [0, 1, 2, 3, 4, 5])) = true := by decide +kernel
