/-! The reference: what is recorded, definitions, answers looked up. -/
abbrev rP (q : Int32 × rcM) : Option Value → rcM → Prop := rI q.1 q.2
/-- the history's row shifted by one state, as far as t -/
def sh4 (t : Nat) (p : Nat → Int32) : Nat → Int32 := fun k => if k < t then p (k + 158) else p k
/-- the state numbered m put into the history's row, as far as t -/
def put4 (t m : Nat) (b p : Nat → Int32) : Nat → Int32 := fun k => if 158 * m ≤ k ∧ k < 158 * m + t then b (k - 158 * m) else p k
def M_act0 (v : rcM) : rcM := rcu (rcr v 3 (sh4 474 (v 3))) 0 3 (nI 3)
def M_act1 (n : Nat) (w : rcM) : rcM := rcu (rcr w 3 (put4 158 n (w 2) (w 3))) 0 3 (nI (n + 1))
def M_act (n : Nat) (v : rcM) : rcM := if n = 4 then M_act1 3 (M_act0 v) else M_act1 n v
def M_acted (n : Nat) (x : Int32) (v : rcM) : rcM := if x ≤ -2000000001 then v else M_act n v
/-- fifteen places of a cell are laid to 0, as far as n -/
def zr (n i : Nat) (f : Nat → Int32) : Nat → Int32 := fun k => if ix i 0 ≤ k ∧ k < ix i n then 0 else f k
/-- a cell is laid down as something else -/
def A_def1 (f : Nat → Int32) (i : Nat) (a b c d e : Int32) : Nat → Int32 :=
  upd (upd (upd (upd (upd (upd (zr 15 i (upd f 0 (f 0 + 1))) (ix i 0) a) (ix i 1) b) (ix i 2) c) (ix i 3) d) (ix i 4) e) (ix i 5) (f 0 + 1)
def A_def (f : Nat → Int32) (i : Nat) (a b c d e : Int32) : Nat → Int32 := if f (ix i 0) = a ∧ f (ix i 1) = b ∧ f (ix i 2) = c ∧ f (ix i 3) = d ∧ f (ix i 4) = e then f else A_def1 f i a b c d e
