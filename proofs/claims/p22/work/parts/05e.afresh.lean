/-! The reference: afresh and what rests on it. -/
noncomputable def EV (f : Nat → Int32) (c : Nat) : Option (Int32 × Int32) := @dite _ (∃ q : Int32 × Int32, ∃ m, ev m f c = some q) (Classical.propDecidable _) (fun h => some h.choose) (fun _ => none)
theorem EV_some {f : Nat → Int32} {c m : Nat} {q : Int32 × Int32} (h : ev m f c = some q) : EV f c = some q := by
  have hx : ∃ q : Int32 × Int32, ∃ m, ev m f c = some q := ⟨q, m, h⟩
  unfold EV
  rw [dif_pos hx]
  obtain ⟨k, hk⟩ := hx.choose_spec
  rw [ev_eq hk h]
theorem EV_none {f : Nat → Int32} {c : Nat} (h : Never f c) : EV f c = none := by
  unfold EV
  rw [dif_neg]
  rintro ⟨q, m, e⟩
  rw [h m] at e
  cases e
