/-! A definition as a text: where it breaks off, or what it says; the reference reads so. -/
abbrev D5 : Type := Int32 × Int32 × Int32 × Int32 × Int32
def PN (tx : Nat → Int32) (ln p : Nat) : Nat × Option D5 :=
  if chr tx ln p = 45 then (if p + 1 < (dg tx ln 5 (p + 1) 0).1 then ((dg tx ln 5 (p + 1) 0).1, some (0, -(dg tx ln 5 (p + 1) 0).2, 0, 0, 0)) else ((dg tx ln 5 (p + 1) 0).1, none))
  else (if p < (dg tx ln 5 p 0).1 then ((dg tx ln 5 p 0).1, some (0, (dg tx ln 5 p 0).2, 0, 0, 0)) else ((dg tx ln 5 p 0).1, none))
/-- p is the place behind the first letter, x that letter -/
def PF (tx : Nat → Int32) (ln p : Nat) (x : Int32) : Nat × Option D5 :=
  if kf (chr tx ln p) = 0 then (p, none)
  else if letB (chr tx ln (p + 1)) = false then (p + 1, none)
  else if kf (chr tx ln p) = 5 then
    (if chr tx ln (p + 2) = 58 then
      (if letB (chr tx ln (p + 3)) = false then (p + 3, none) else (p + 4, some (5, 0, x - 97, chr tx ln (p + 1) - 97, chr tx ln (p + 3) - 97)))
    else (p + 2, none))
  else (p + 2, some (kf (chr tx ln p), 0, x - 97, chr tx ln (p + 1) - 97, 0))
def PB (tx : Nat → Int32) (ln p : Nat) : Nat × Option D5 := if letB (chr tx ln p) = true then PF tx ln (p + 1) (chr tx ln p) else PN tx ln p
def PR (tx : Nat → Int32) (ln p : Nat) : Nat × Option (Int32 × D5) :=
  if letB (chr tx ln p) = false then (p, none)
  else if chr tx ln (p + 1) = 61 then
    (match PB tx ln (p + 2) with
    | (q, none) => (q, none)
    | (q, some d) => if chr tx ln q = 59 then (q + 1, some (chr tx ln p - 97, d)) else (q, none))
  else (p + 1, none)
