/-! The reference: play. -/
def S_play (f p : Nat → Int32) (n : Nat) (tx : Nat → Int32) (ln : Nat) : rcS := match brk tx ln 61 0 with
  | some _ => S_no (-2000000002) f p n
  | none => S_act (A_play tx ln 61 f 0 0) f (A_play tx ln 61 f 0) p n
