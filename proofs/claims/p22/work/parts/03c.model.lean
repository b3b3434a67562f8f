/-! The reference: define, formula, cellOf, and what a look is made of. -/
def M_beg (v : rcM) : rcM := rcr v 2 (cp 158 (v 1) (v 2))
def M_defN (v : rcM) (n i : Nat) (a b c d e : Int32) : Int32 × rcM := (A_def (v 1) i a b c d e 0, M_acted n (A_def (v 1) i a b c d e 0) (rcr (M_beg v) 1 (A_def (v 1) i a b c d e)))
def M_define (v : rcM) (n : Nat) (c x : Int32) : Int32 × rcM := if (0 ≤ c ∧ c ≤ 9) ∧ (-99999 ≤ x ∧ x ≤ 99999) then M_defN v n c.toNatClampNeg 0 x 0 0 0 else (-2000000001, v)
theorem M_define_ok {v : rcM} {n i : Nat} {x : Int32} (hi : i < 10) (hx : -99999 ≤ x ∧ x ≤ 99999) : M_define v n (nI i) x = M_defN v n i 0 x 0 0 0 := by
  unfold M_define
  rw [if_pos ⟨nI_in9 hi, hx⟩, nI_clamp (by omega)]
def M_formula (v : rcM) (n : Nat) (c k x y z : Int32) : Int32 × rcM := if (0 ≤ c ∧ c ≤ 9) ∧ (0 ≤ k ∧ k ≤ 4) ∧ (0 ≤ x ∧ x ≤ 9) ∧ (0 ≤ y ∧ y ≤ 9) ∧ (0 ≤ z ∧ z ≤ (if k = 4 then (9 : Int32) else 0)) then M_defN v n c.toNatClampNeg (k + 1) 0 x y z else (-2000000001, v)
theorem M_formula_ok {v : rcM} {n i : Nat} {k x y z : Int32} (hi : i < 10) (h : (0 ≤ k ∧ k ≤ 4) ∧ (0 ≤ x ∧ x ≤ 9) ∧ (0 ≤ y ∧ y ≤ 9) ∧ (0 ≤ z ∧ z ≤ (if k = 4 then (9 : Int32) else 0))) : M_formula v n (nI i) k x y z = M_defN v n i (k + 1) 0 x y z := by
  unfold M_formula
  rw [if_pos ⟨nI_in9 hi, h⟩, nI_clamp (by omega)]
def M_cellOf (v : rcM) (c w : Int32) : Int32 := if (0 ≤ c ∧ c ≤ 9) ∧ (0 ≤ w ∧ w ≤ 4) then (if w = 0 ∨ ((w = 1 ↔ v 1 (ix c.toNatClampNeg 0) = 0) ∧ (w < 4 ∨ v 1 (ix c.toNatClampNeg 0) = 5)) then v 1 (ix c.toNatClampNeg w.toNatClampNeg) else -2000000004) else -2000000001
theorem M_cellOf_t {v : rcM} {i j : Nat} (hi : i < 10) (hj : j < 5) (h : nI j = 0 ∨ ((nI j = 1 ↔ v 1 (ix i 0) = 0) ∧ (nI j < 4 ∨ v 1 (ix i 0) = 5))) : M_cellOf v (nI i) (nI j) = v 1 (ix i j) := by
  unfold M_cellOf
  rw [if_pos ⟨nI_in9 hi, nI_pos' (by omega), nI_le (a := j) (b := 4) (by omega) (by decide)⟩, nI_clamp (by omega), nI_clamp (by omega), if_pos h]
theorem M_cellOf_f {v : rcM} {i j : Nat} (hi : i < 10) (hj : j < 5) (h : ¬ (nI j = 0 ∨ ((nI j = 1 ↔ v 1 (ix i 0) = 0) ∧ (nI j < 4 ∨ v 1 (ix i 0) = 5)))) : M_cellOf v (nI i) (nI j) = -2000000004 := by
  unfold M_cellOf
  rw [if_pos ⟨nI_in9 hi, nI_pos' (by omega), nI_le (a := j) (b := 4) (by omega) (by decide)⟩, nI_clamp (by omega), if_neg h]
theorem what_of {w M : Int32} {n : Nat} (hM : M.toInt = n) (h : 0 ≤ w ∧ w ≤ M) : ∃ j : Nat, j ≤ n ∧ w = nI j := nI_of2 hM (Int32.not_lt.mpr h.1) h.2
/-- a use: numbered by the turn -/
def A_uses (f : Nat → Int32) (i : Nat) : Nat → Int32 := upd (upd f 7 (f 7 + 1)) (ix i 13) (f 7 + 1)
