/-! The reference: faults of the text, play, type, clearText. -/
theorem PN_ge {tx : Nat → Int32} {ln p : Nat} : p ≤ (PN tx ln p).1 := by
  unfold PN
  split
  · have := (dg_ge (tx := tx) (ln := ln) 5 (p + 1) 0).1
    split <;> (dsimp only; omega)
  · have := (dg_ge (tx := tx) (ln := ln) 5 p 0).1
    split <;> (dsimp only; omega)
theorem PB_ge {tx : Nat → Int32} {ln p : Nat} : p ≤ (PB tx ln p).1 := by
  unfold PB
  split
  · unfold PF
    repeat' split
    all_goals (dsimp only; omega)
  · exact PN_ge
theorem PR_gt {tx : Nat → Int32} {ln p q : Nat} {d : Int32 × D5} (h : PR tx ln p = (q, some d)) : p < q ∧ q ≤ ln := by
  unfold PR at h
  split at h
  · cases h
  · split at h
    · have hb := PB_ge (tx := tx) (ln := ln) (p := p + 2)
      generalize PB tx ln (p + 2) = pb at h hb
      obtain ⟨q', od⟩ := pb
      cases od with
      | none => cases h
      | some d' =>
        dsimp only at h hb
        split at h
        · rename_i h59
          cases h
          have := chr_lt (tx := tx) (ln := ln) (p := q') (by rw [h59]; decide)
          omega
        · cases h
    · cases h
/-- the first fault of the text from p on, and where it breaks off -/
def brk (tx : Nat → Int32) (ln : Nat) : Nat → Nat → Option (Nat × Nat)
  | 0, _ => none
  | n + 1, p => if p < ln then (match PR tx ln p with | (q, none) => some (p, q) | (q, some _) => brk tx ln n q) else none
theorem brk_s {tx : Nat → Int32} {ln n p : Nat} : brk tx ln (n + 1) p = if p < ln then (match PR tx ln p with | (q, none) => some (p, q) | (q, some _) => brk tx ln n q) else none := rfl
/-- what reading leaves -/
def FrT (v u : rcM) : Prop := (∀ id, id ≠ 0 → id ≠ 12 → u id = v id) ∧ ∀ j, j ≠ 15 → j ≠ 16 → u 0 j = v 0 j
theorem FrT.rf {v : rcM} : FrT v v := ⟨fun _ _ _ => rfl, fun _ _ _ => rfl⟩
def S_fault (tx : Nat → Int32) (ln : Nat) (w : Int32) : Int32 := if 0 ≤ w ∧ w ≤ 1 then (match brk tx ln 61 0 with
  | none => -2000000004
  | some q => if w = 0 then nI q.1 else nI q.2 - nI q.1) else -2000000001
def S_type (tx : Nat → Int32) (ln : Nat) (c : Int32) : Int32 × (Nat → Int32) × Nat := if 32 ≤ c ∧ c ≤ 126 then (if ln = 60 then (-2000000003, tx, ln) else (nI (ln + 1), upd tx ln c, ln + 1)) else (-2000000001, tx, ln)
