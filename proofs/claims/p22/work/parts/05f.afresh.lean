/-! The reference: what is asked afresh; counts; undo. -/
noncomputable def toldF (f : Nat → Int32) (c : Nat) : Int32 := match EV f c with
  | none => -2000000002
  | some q => if q.1 = 2000000000 then -2000000003 else q.1
theorem FrA.row {v u : rcM} (fr : FrA v u) : u 1 = v 1 := fr.1 1 (by decide) (by decide) (by decide) (by decide) (by decide)
noncomputable def S_fresh (f : Nat → Int32) (c : Int32) : Int32 := if 0 ≤ c ∧ c ≤ 9 then toldF f (cN c) else -2000000001
noncomputable def one (f : Nat → Int32) (c : Nat) (w : Int32) : Int32 :=
  if w = 0 then b2 (0 < f (ix c 0)) else if w = 1 then b2 (f (ix c 6) = 1) else if w = 2 then b2 (f (ix c 6) = 1 ∧ f (ix c 9) = f 0)
  else if w = 3 then (match EV f c with | none => 1 | some _ => 0) else (match EV f c with | none => 0 | some q => b2 (q.1 = 2000000000))
noncomputable def whF (f : Nat → Int32) (w : Int32) : Nat → Int32
  | 0 => 0
  | k + 1 => whF f w k ||| (if one f k w = 0 then 0 else bitI (nI k))
noncomputable def S_which (f : Nat → Int32) (w : Int32) : Int32 := if 0 ≤ w ∧ w ≤ 4 then whF f w 10 else -2000000001
noncomputable def ubb (f : Nat → Int32) (c : Int32) (k : Nat) : Int32 := match EV f k with
  | none => 0
  | some q => if (q.2 >>> (c &&& 31)) &&& 1 = 1 then bitI (nI k) else 0
noncomputable def ubF (f : Nat → Int32) (c : Int32) : Nat → Int32
  | 0 => 0
  | k + 1 => ubF f c k ||| ubb f c k
/-- the row in which a cell is a value for once -/
def A_as (f : Nat → Int32) (i : Nat) (x : Int32) : Nat → Int32 := upd (upd f (ix i 0) 0) (ix i 1) x
