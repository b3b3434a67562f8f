/-! The reference's loop runs the look. -/
theorem nodup_le : ∀ (n : Nat) (O : List Nat), O.Nodup → (∀ x, x ∈ O → x < n) → O.length ≤ n := by
  intro n
  induction n with
  | zero =>
    intro O _ h
    cases O with
    | nil => exact Nat.le_refl _
    | cons a l => exact absurd (h a List.mem_cons_self) (Nat.not_lt_zero _)
  | succ n ih =>
    intro O hn h
    by_cases hm : n ∈ O
    · have h1 := ih (O.erase n) (hn.erase n) (fun x hx => by
        have h2 := (List.Nodup.mem_erase_iff hn).mp hx
        have h3 := h x h2.2
        have h4 := h2.1
        omega)
      rw [List.length_erase_of_mem hm] at h1
      omega
    · have h1 := ih O hn (fun x hx => by
        have h3 := h x hx
        have h4 : x ≠ n := fun e => hm (e ▸ hx)
        omega)
      omega
/-- what a look leaves as it was beside the state's row -/
def FrS (v w : rcM) : Prop := (∀ id, id ≠ 0 → id ≠ 1 → id ≠ 5 → id ≠ 6 → id ≠ 7 → id ≠ 8 → w id = v id) ∧ ∀ j, j ≠ 10 → j ≠ 11 → w 0 j = v 0 j
def Lo (v w : rcM) (n : Nat) : Prop := ∀ k, k < n → w 5 k = v 5 k ∧ w 6 k = v 6 k ∧ w 7 k = v 7 k ∧ w 8 k = v 8 k
theorem FrS.rf {v : rcM} : FrS v v := ⟨fun _ _ _ _ _ _ _ => rfl, fun _ _ _ => rfl⟩
theorem FrS.tr {u v w : rcM} (a : FrS u v) (b : FrS v w) : FrS u w := ⟨fun id h0 h1 h5 h6 h7 h8 => (b.1 id h0 h1 h5 h6 h7 h8).trans (a.1 id h0 h1 h5 h6 h7 h8), fun j h h' => (b.2 j h h').trans (a.2 j h h')⟩
theorem FrS.u {v : rcM} {a k : Nat} {x : Int32} (h : a = 5 ∨ a = 6 ∨ a = 7 ∨ a = 8) : FrS v (rcu v a k x) := ⟨fun id h0 h1 h5 h6 h7 h8 => rcu_ne (by omega), fun j _ _ => by rw [rcu_ne (by omega)]⟩
theorem Lo.rf {v : rcM} {n : Nat} : Lo v v n := fun _ _ => ⟨rfl, rfl, rfl, rfl⟩
theorem Lo.tr {u v w : rcM} {n : Nat} (a : Lo u v n) (b : Lo v w n) : Lo u w n := fun k hk => by
  obtain ⟨a1, a2, a3, a4⟩ := a k hk
  obtain ⟨b1, b2, b3, b4⟩ := b k hk
  exact ⟨b1.trans a1, b2.trans a2, b3.trans a3, b4.trans a4⟩
theorem Lo.u {v : rcM} {a k n : Nat} {x : Int32} (h : n ≤ k) : Lo v (rcu v a k x) n := fun j hj => by
  have e : ∀ b, rcu v a k x b j = v b j := fun b => by unfold rcu; rw [if_neg (by omega)]
  exact ⟨e 5, e 6, e 7, e 8⟩
/-- what follows a look that came to r, over the stack O, from the memory v -/
def LPost (H : rcM → Prop) (O : List Nat) (v : rcM) (r : Option (Nat → Int32)) : Prop := match r with
  | none => ∀ w, w 0 11 = 1 → FrS v w → H w
  | some g => ∀ w, w 1 = g → w 0 10 = nI O.length → w 0 11 = 0 → Lo v w O.length → FrS v w → H w
theorem LPost.of {H : rcM → Prop} {O : List Nat} {u v : rcM} {r : Option (Nat → Int32)} (h : LPost H O u r) (hl : Lo u v O.length) (hf : FrS u v) : LPost H O v r := by
  cases r with
  | none => exact fun w h1 h2 => h w h1 (hf.tr h2)
  | some g => exact fun w h1 h2 h3 h4 h5 => h w h1 h2 h3 (hl.tr h4) (hf.tr h5)
/-- the stack is a legal one -/
def OkO (O : List Nat) : Prop := O.Nodup ∧ ∀ o, o ∈ O → o < 10
theorem OkO.len {O : List Nat} (h : OkO O) : O.length ≤ 10 := nodup_le 10 O h.1 h.2
theorem OkO.cons {O : List Nat} {c : Nat} (h : OkO O) (hc : c < 10) (hn : c ∉ O) : OkO (c :: O) := ⟨List.nodup_cons.mpr ⟨hn, h.1⟩, fun o ho => by
  rcases List.mem_cons.mp ho with rfl | ho
  · exact hc
  · exact h.2 o ho⟩
