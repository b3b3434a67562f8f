/-! The reference: remembered answers, and what goes. -/
def remI (f : Nat → Int32) : Nat → Int32
  | 0 => 0
  | n + 1 => remI f n + f (ix n 6)
/-- nine places of a cell laid to 0, as far as n -/
def zd (n i : Nat) (f : Nat → Int32) : Nat → Int32 := fun k => if ix i 6 ≤ k ∧ k < ix i n then 0 else f k
def A_drop (f : Nat → Int32) (i : Nat) : Nat → Int32 := upd (zd 15 i f) 4 (f 4 + 1)
/-- the oldest of the first k cells' answers -/
def old (f : Nat → Int32) : Nat → Int32
  | 0 => -1
  | k + 1 => if f (ix k 6) = 1 ∧ (old f k < 0 ∨ f (ix k 13) < f (ix (cN (old f k)) 13)) then nI k else old f k
def A_trim : Nat → (Nat → Int32) → (Nat → Int32)
  | 0, f => f
  | m + 1, f => if f 5 < remI f 10 then A_trim m (A_drop f (cN (old f 10))) else f
theorem A_trim_s {m : Nat} {f : Nat → Int32} : A_trim (m + 1) f = if f 5 < remI f 10 then A_trim m (A_drop f (cN (old f 10))) else f := rfl
/-- how many of the first k cells have an answer -/
def cntH (f : Nat → Int32) : Nat → Nat
  | 0 => 0
  | k + 1 => cntH f k + (if f (ix k 6) = 1 then 1 else 0)
theorem cntH_le {f : Nat → Int32} : ∀ k, cntH f k ≤ k
  | 0 => Nat.le_refl _
  | k + 1 => by have := cntH_le (f := f) k; unfold cntH; split <;> omega
theorem remI_cnt {f : Nat → Int32} (h : ∀ i, i < 10 → f (ix i 6) = 0 ∨ f (ix i 6) = 1) : ∀ k, k ≤ 10 → remI f k = nI (cntH f k)
  | 0, _ => rfl
  | k + 1, hk => by
    unfold remI cntH
    rw [remI_cnt h k (by omega)]
    rcases h k (by omega) with z | z
    · rw [z, if_neg (by decide)]
      show nI _ + nI 0 = _
      rw [nI_add]
    · rw [z, if_pos rfl, nI_1]
theorem old_spec {f : Nat → Int32} : ∀ k, k ≤ 10 → (cntH f k = 0 ∧ old f k = -1) ∨ (0 < cntH f k ∧ ∃ j, j < k ∧ old f k = nI j ∧ f (ix j 6) = 1)
  | 0, _ => Or.inl ⟨rfl, rfl⟩
  | k + 1, hk => by
    unfold old cntH
    by_cases h6 : f (ix k 6) = 1
    · rw [if_pos h6]
      refine Or.inr ⟨by omega, ?_⟩
      split
      · exact ⟨k, by omega, rfl, h6⟩
      · rename_i hn
        rcases old_spec (f := f) k (by omega) with z | ⟨z, j, hj, e, e6⟩
        · exact absurd ⟨h6, Or.inl (by rw [z.2]; decide)⟩ hn
        · exact ⟨j, by omega, e, e6⟩
    · rw [if_neg h6, if_neg (fun q => h6 q.1)]
      rcases old_spec (f := f) k (by omega) with z | ⟨z, j, hj, e, e6⟩
      · exact Or.inl ⟨by omega, z.2⟩
      · exact Or.inr ⟨by omega, j, by omega, e, e6⟩
theorem drop_o {f : Nat → Int32} {c k : Nat} (h : ∀ j, 6 ≤ j → j < 15 → k ≠ ix c j) (h4 : k ≠ 4) : A_drop f c k = f k := by
  unfold A_drop
  rw [pk_un h4]
  unfold zd
  rw [if_neg]
  intro q
  unfold ix at q h
  exact h (k - (8 + 15 * c)) (by omega) (by omega) (by omega)
theorem drop_6 {f : Nat → Int32} {c j : Nat} (h : 6 ≤ j) (h2 : j < 15) : A_drop f c (ix c j) = 0 := by
  unfold A_drop
  rw [pk_un (ix_g (by decide))]
  unfold zd
  rw [if_pos (by unfold ix; omega)]
theorem drop_c {f : Nat → Int32} {c i j : Nat} (h : i ≠ c) (hj : j < 15) : A_drop f c (ix i j) = f (ix i j) := drop_o (fun q _ h2 => ix_o h hj h2) (ix_g (by decide))
theorem drop_d {f : Nat → Int32} {c j : Nat} (hj : j < 6) : A_drop f c (ix c j) = f (ix c j) := drop_o (fun q h1 _ => ix_j (by omega)) (ix_g (by decide))
theorem drop_g {f : Nat → Int32} {c k : Nat} (hk : k < 8) (h4 : k ≠ 4) : A_drop f c k = f k := drop_o (fun q _ _ => ix_h hk) h4
theorem drop_cnt {f : Nat → Int32} {c : Nat} : ∀ k, cntH (A_drop f c) k + (if c < k ∧ f (ix c 6) = 1 then 1 else 0) = cntH f k
  | 0 => by simp [cntH]
  | k + 1 => by
    have ih := drop_cnt (f := f) (c := c) k
    unfold cntH
    by_cases e : k = c
    · subst e
      rw [drop_6 (by decide) (by decide), if_neg (show ¬ (0 : Int32) = 1 by decide)]
      rw [if_neg (fun q => absurd q.1 (Nat.lt_irrefl _))] at ih
      by_cases h6 : f (ix k 6) = 1
      · rw [if_pos ⟨Nat.lt_succ_self _, h6⟩, if_pos h6]; omega
      · rw [if_neg (fun q => h6 q.2), if_neg h6]; omega
    · rw [drop_c e (by decide)]
      by_cases h6 : c < k ∧ f (ix c 6) = 1
      · rw [if_pos h6] at ih
        rw [if_pos (show c < k + 1 ∧ f (ix c 6) = 1 from ⟨by omega, h6.2⟩)]; omega
      · rw [if_neg h6] at ih
        rw [if_neg (show ¬ (c < k + 1 ∧ f (ix c 6) = 1) from fun q => h6 ⟨by omega, q.2⟩)]; omega
theorem drop_wf {f : Nat → Int32} {c : Nat} (w : WF f) : WF (A_drop f c) := by
  refine ⟨fun i hi => ?_, by rw [drop_g (by decide) (by decide)]; exact w.2.1, by rw [drop_g (by decide) (by decide)]; exact w.2.2⟩
  by_cases e : i = c
  · subst e
    have w0 := w.1 i hi
    unfold wfCell at w0 ⊢
    rw [drop_d (by decide), drop_d (by decide), drop_d (by decide), drop_d (by decide), drop_d (by decide), drop_d (by decide), drop_6 (by decide) (by decide)]
    exact ⟨w0.1, fun z => let q := w0.2.1 z; ⟨q.1, q.2.1, q.2.2.1, q.2.2.2.1, q.2.2.2.2.1, q.2.2.2.2.2.1, rfl⟩, w0.2.2.1, Or.inl rfl, fun z => absurd z (by decide)⟩
  · exact wfCell_same (fun j hj _ => drop_c e (by omega)) (w.1 i hi)
