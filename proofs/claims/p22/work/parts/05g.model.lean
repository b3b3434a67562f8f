/-! The reference: would, count, undo. -/
def S_count (f : Nat → Int32) (n : Nat) (ln w : Int32) : Int32 := if w = 0 then f 0 else if w = 1 then remI f 10 else if w = 2 then f 1 else if w = 3 then f 2 else if w = 4 then f 3 else if w = 5 then f 4 else if w = 6 then f 5 else if w = 7 then f 6 else if w = 8 then nI n else if w = 9 then ln else -2000000001
def S_undo (f p : Nat → Int32) (n : Nat) : rcS := if n = 0 then S_no (-2000000002) f p n else (nI (n - 1), fun k => p (158 * (n - 1) + k), p, n - 1)
