/-! The reference: a cell worked out afresh: what is wanted next, and what is settled. -/
def bitI (x : Int32) : Int32 := 1 <<< (x &&& 31)
/-- an answer afresh, with the set of the cells used -/
def ev : Nat → (Nat → Int32) → Nat → Option (Int32 × Int32)
  | 0, _, _ => none
  | n + 1, f, c =>
    if f (ix c 0) = 0 then some (f (ix c 1), 0)
    else match ev n f (cN (f (ix c 2))) with
      | none => none
      | some (a, S) =>
        if f (ix c 0) = 5 ∧ a = 2000000000 then some (2000000000, S ||| S ||| bitI (f (ix c 2)) ||| bitI (f (ix c 2)))
        else match ev n f (cN (A_nxt f c a)) with
          | none => none
          | some (b, T) => some (A_made (f (ix c 0)) a b, S ||| T ||| bitI (f (ix c 2)) ||| bitI (A_nxt f c a))
theorem ev_s (n : Nat) (f : Nat → Int32) (c : Nat) : ev (n + 1) f c =
    if f (ix c 0) = 0 then some (f (ix c 1), 0)
    else match ev n f (cN (f (ix c 2))) with
      | none => none
      | some (a, S) =>
        if f (ix c 0) = 5 ∧ a = 2000000000 then some (2000000000, S ||| S ||| bitI (f (ix c 2)) ||| bitI (f (ix c 2)))
        else match ev n f (cN (A_nxt f c a)) with
          | none => none
          | some (b, T) => some (A_made (f (ix c 0)) a b, S ||| T ||| bitI (f (ix c 2)) ||| bitI (A_nxt f c a)) := rfl
theorem ev_up {f : Nat → Int32} : ∀ (n : Nat) (c : Nat) (r : Int32 × Int32), ev n f c = some r → ev (n + 1) f c = some r := by
  intro n
  induction n with
  | zero => intro c r h; cases h
  | succ n ih =>
    intro c r h
    rw [ev_s] at h ⊢
    split at h
    · rename_i h0
      rw [if_pos h0]; exact h
    · rename_i h0
      rw [if_neg h0]
      cases e1 : ev n f (cN (f (ix c 2))) with
      | none => rw [e1] at h; cases h
      | some q =>
        obtain ⟨a, S⟩ := q
        rw [e1] at h
        rw [ih _ _ e1]
        dsimp only at h ⊢
        split at h
        · rename_i h5
          rw [if_pos h5]; exact h
        · rename_i h5
          rw [if_neg h5]
          cases e2 : ev n f (cN (A_nxt f c a)) with
          | none => rw [e2] at h; cases h
          | some q => rw [e2] at h; rw [ih _ _ e2]; exact h
theorem ev_le {f : Nat → Int32} {n m c : Nat} {r : Int32 × Int32} (h : ev n f c = some r) (hm : n ≤ m) : ev m f c = some r := by
  induction m with
  | zero => rw [Nat.le_zero.mp hm] at h; exact h
  | succ m ih =>
    rcases Nat.lt_or_ge n (m + 1) with q | q
    · exact ev_up _ _ _ (ih (by omega))
    · rw [Nat.le_antisymm hm q] at h; exact h
theorem ev_eq {f : Nat → Int32} {n m c : Nat} {r q : Int32 × Int32} (h : ev n f c = some r) (h2 : ev m f c = some q) : r = q := by
  have a := ev_le h (Nat.le_max_left n m)
  have b := ev_le h2 (Nat.le_max_right n m)
  exact Option.some.inj (a.symm.trans b)
/-- an answer of c is had only by an earlier one of d -/
def Desc (f : Nat → Int32) (c d : Nat) : Prop := ∀ m r, ev m f c = some r → ∃ m' r', m' < m ∧ ev m' f d = some r'
def Never (f : Nat → Int32) (c : Nat) : Prop := ∀ m, ev m f c = none
theorem Desc.tr {f : Nat → Int32} {a b c : Nat} (h : Desc f a b) (h2 : Desc f b c) : Desc f a c := fun m r e => by
  obtain ⟨m1, r1, l1, e1⟩ := h m r e
  obtain ⟨m2, r2, l2, e2⟩ := h2 m1 r1 e1
  exact ⟨m2, r2, by omega, e2⟩
theorem Desc.never {f : Nat → Int32} {a b : Nat} (h : Desc f a b) (hb : Never f b) : Never f a := fun m => by
  cases e : ev m f a with
  | none => rfl
  | some r =>
    obtain ⟨m1, r1, -, e1⟩ := h m r e
    rw [hb m1] at e1
    cases e1
theorem Desc.self {f : Nat → Int32} {a : Nat} (h : Desc f a a) : Never f a := by
  intro m
  induction m using Nat.strongRecOn with
  | _ m ih =>
    cases e : ev m f a with
    | none => rfl
    | some r =>
      obtain ⟨m1, r1, l1, e1⟩ := h m r e
      rw [ih m1 l1] at e1
      cases e1
theorem desc_1 {f : Nat → Int32} {c : Nat} (h0 : ¬ f (ix c 0) = 0) : Desc f c (cN (f (ix c 2))) := fun m r e => by
  cases m with
  | zero => cases e
  | succ m =>
    rw [ev_s, if_neg h0] at e
    cases e1 : ev m f (cN (f (ix c 2))) with
    | none => rw [e1] at e; cases e
    | some q => exact ⟨m, q, Nat.lt_succ_self _, e1⟩
theorem desc_2 {f : Nat → Int32} {c k : Nat} {a S : Int32} (h0 : ¬ f (ix c 0) = 0) (hx : ev k f (cN (f (ix c 2))) = some (a, S)) (h5 : ¬ (f (ix c 0) = 5 ∧ a = 2000000000)) : Desc f c (cN (A_nxt f c a)) := fun m r e => by
  cases m with
  | zero => cases e
  | succ m =>
    rw [ev_s, if_neg h0] at e
    cases e1 : ev m f (cN (f (ix c 2))) with
    | none => rw [e1] at e; cases e
    | some q =>
      have eq := ev_eq hx e1
      subst eq
      rw [e1] at e
      dsimp only at e
      rw [if_neg h5] at e
      cases e2 : ev m f (cN (A_nxt f c a)) with
      | none => rw [e2] at e; cases e
      | some q => exact ⟨m, q, Nat.lt_succ_self _, e2⟩
