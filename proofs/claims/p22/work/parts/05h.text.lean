/-! The reference: its text. -/
/-- the character at a place, -1 behind the end -/
def chr (tx : Nat → Int32) (ln p : Nat) : Int32 := if p < ln then tx p else -1
def letB (c : Int32) : Bool := decide (97 ≤ c ∧ c ≤ 106)
def digB (c : Int32) : Bool := decide (48 ≤ c ∧ c ≤ 57)
def kf (c : Int32) : Int32 := if c = 43 then 1 else if c = 45 then 2 else if c = 42 then 3 else if c = 94 then 4 else if c = 63 then 5 else 0
