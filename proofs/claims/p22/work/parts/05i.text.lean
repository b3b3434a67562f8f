/-! The reference: numbers, formulas, definitions as texts. -/
def dg (tx : Nat → Int32) (ln : Nat) : Nat → Nat → Int32 → Nat × Int32
  | 0, p, x => (p, x)
  | k + 1, p, x => if digB (chr tx ln p) = true then dg tx ln k (p + 1) (10 * x + chr tx ln p - 48) else (p, x)
theorem dg_ge {tx : Nat → Int32} {ln : Nat} : ∀ (k p : Nat) (x : Int32), p ≤ (dg tx ln k p x).1 ∧ (dg tx ln k p x).1 ≤ p + k
  | 0, p, x => ⟨Nat.le_refl _, Nat.le_refl _⟩
  | k + 1, p, x => by
    unfold dg
    split
    · have := dg_ge (tx := tx) (ln := ln) k (p + 1) (10 * x + chr tx ln p - 48)
      omega
    · exact ⟨Nat.le_refl _, by show p ≤ _; omega⟩
theorem dg_s {tx : Nat → Int32} {ln k p : Nat} {x : Int32} : dg tx ln (k + 1) p x = if digB (chr tx ln p) = true then dg tx ln k (p + 1) (10 * x + chr tx ln p - 48) else (p, x) := rfl
theorem chr_lt {tx : Nat → Int32} {ln p : Nat} (h : ¬ chr tx ln p = -1) : p < ln := by
  rcases Nat.lt_or_ge p ln with z | z
  · exact z
  · exact absurd (if_neg (by omega)) h
theorem chr_tx {tx : Nat → Int32} {ln p : Nat} (h : p < ln) : chr tx ln p = tx p := if_pos h
