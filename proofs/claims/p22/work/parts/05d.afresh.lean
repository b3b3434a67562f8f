/-! The reference's loop works a cell out afresh. -/
def WD (f : Nat → Int32) : Prop := ∀ i, i < 10 → (∃ fo : Nat, fo ≤ 5 ∧ f (ix i 0) = nI fo) ∧ (¬ f (ix i 0) = 0 → okC (f (ix i 2)) ∧ okC (f (ix i 3)) ∧ okC (f (ix i 4)))
theorem WF.wd {f : Nat → Int32} (h : WF f) : WD f := fun i hi => ⟨(h.1 i hi).1, fun z => let q := (h.1 i hi).2.2.1 z; ⟨q.2.1, q.2.2.1, q.2.2.2.1⟩⟩
theorem WD.nxt {f : Nat → Int32} (w : WD f) {c : Nat} {a : Int32} (hc : c < 10) (h0 : ¬ f (ix c 0) = 0) : okC (A_nxt f c a) := by
  have q := (w c hc).2 h0
  unfold A_nxt
  split
  · exact q.2.2
  · exact q.2.1
theorem WD.pos {f : Nat → Int32} (w : WD f) {c : Nat} (hc : c < 10) (h0 : ¬ f (ix c 0) = 0) : 0 < f (ix c 0) := by
  obtain ⟨fo, h5, e⟩ := (w c hc).1
  rw [e] at h0 ⊢
  have : fo ≠ 0 := fun z => h0 (by rw [z]; rfl)
  exact nI_lt (a := 0) (by omega) (by omega)
def FrA (v w : rcM) : Prop := (∀ id, id ≠ 0 → id ≠ 5 → id ≠ 9 → id ≠ 10 → id ≠ 11 → w id = v id) ∧ ∀ j, j ≠ 10 → w 0 j = v 0 j
theorem FrA.rf {v : rcM} : FrA v v := ⟨fun _ _ _ _ _ _ => rfl, fun _ _ => rfl⟩
theorem FrA.tr {u v w : rcM} (a : FrA u v) (b : FrA v w) : FrA u w := ⟨fun id h0 h5 h9 h10 h11 => (b.1 id h0 h5 h9 h10 h11).trans (a.1 id h0 h5 h9 h10 h11), fun j h => (b.2 j h).trans (a.2 j h)⟩
