/-! The reference: its small methods, each tied to a function of its rows. -/
def ix (i w : Nat) : Nat := 8 + 15 * i + w
theorem rIe {x y : Int32} {u w : rcM} (h1 : x = y) (h2 : u = w) : rI y w (some (.int x)) u := ⟨by rw [h1], h2⟩
theorem rVe {u w : rcM} (h2 : u = w) : rV w none u := ⟨rfl, h2⟩
theorem in_t {x a b : Int32} (h1 : ¬ x < a) (h2 : ¬ b < x) : 1 = b2 (a ≤ x ∧ x ≤ b) := (b2_t ⟨Int32.not_lt.mp h1, Int32.not_lt.mp h2⟩).symm
theorem in_f1 {x a b : Int32} (h1 : x < a) : 0 = b2 (a ≤ x ∧ x ≤ b) := (b2_f (fun h => Int32.not_lt.mpr h.1 h1)).symm
theorem in_f2 {x a b : Int32} (h1 : b < x) : 0 = b2 (a ≤ x ∧ x ≤ b) := (b2_f (fun h => Int32.not_lt.mpr h.2 h1)).symm
/-- the first n places of f, the others of g -/
def cp (n : Nat) (f g : Nat → Int32) : Nat → Int32 := fun k => if k < n then f k else g k
