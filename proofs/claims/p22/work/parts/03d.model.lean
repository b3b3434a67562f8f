/-! The reference: the steps of a look. -/
def A_chg (f : Nat → Int32) (i : Nat) : Int32 := if f (ix i 0) = 0 then f (ix i 5) else f (ix i 8)
def A_ans (f : Nat → Int32) (i : Nat) : Int32 := if f (ix i 0) = 0 then f (ix i 1) else f (ix i 7)
def bnd (x : Int64) : Int32 := if x < -1000000000 ∨ 1000000000 < x then 2000000000 else x.toInt32
def A_made (a x y : Int32) : Int32 := if x = 2000000000 ∨ y = 2000000000 then 2000000000 else if a = 1 then bnd (x.toInt64 + y.toInt64) else if a = 2 then bnd (x.toInt64 - y.toInt64) else if a = 3 then bnd (x.toInt64 * y.toInt64) else if a = 4 then (if y < x then x else y) else y
def A_take (f : Nat → Int32) (i : Nat) : Nat → Int32 := A_uses (upd f 3 (f 3 + 1)) i
def A_keep (f : Nat → Int32) (i : Nat) : Nat → Int32 := A_uses (upd (upd f (ix i 9) (f 0)) 2 (upd f (ix i 9) (f 0) 2 + 1)) i
/-- what a worked-out cell is laid down with: ds is 1 if its answer is the same as before, ch the revision of its change -/
def A_end1 (f : Nat → Int32) (i : Nat) (ds ch its many o2 : Int32) : Nat → Int32 :=
  let f2 := upd (upd f 6 (f 6 + ds)) (ix i 8) ch
  let f4 := upd (upd f2 (ix i 6) 1) (ix i 7) its
  let f5 := upd f4 (ix i 9) (f4 0)
  let f6 := upd f5 (ix i 10) many
  let f8 := upd (upd f6 (ix i 11) (f6 (ix i 2))) (ix i 12) o2
  A_uses (upd f8 1 (f8 1 + 1)) i
def A_end (f : Nat → Int32) (i : Nat) (its many o2 : Int32) : Nat → Int32 :=
  if f (ix i 6) = 1 ∧ f (ix i 7) = its then A_end1 f i 1 (f (ix i 8)) its many o2 else A_end1 f i 0 (f 0) its many o2
