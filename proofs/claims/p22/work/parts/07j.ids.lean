/-! The whole class, by ids: its world, and what it stands for at first. -/
/-- an id below 7, or in a state -/
theorem id_cases {id : Nat} (h : id < 139) : id < 7 ∨ ∃ k, k < 6 ∧ (id = sid k ∨ id = aid k ∨ ∃ i, i < 10 ∧ (id = cid k i ∨ id = did k i)) := by
  by_cases h7 : id < 7
  · exact Or.inl h7
  · refine Or.inr ⟨(id - 7) / 22, by omega, ?_⟩
    by_cases r0 : (id - 7) % 22 = 0
    · exact Or.inl (by show id = 22 * ((id - 7) / 22) + 7; omega)
    · by_cases r1 : (id - 7) % 22 = 1
      · exact Or.inr (Or.inl (by show id = 22 * ((id - 7) / 22) + 8; omega))
      · by_cases r2 : (id - 7) % 22 < 12
        · exact Or.inr (Or.inr ⟨(id - 7) % 22 - 2, by omega, Or.inl (by show id = (id - 7) % 22 - 2 + (22 * ((id - 7) / 22) + 9); omega)⟩)
        · exact Or.inr (Or.inr ⟨(id - 7) % 22 - 12, by omega, Or.inr (by show id = (id - 7) % 22 - 12 + (22 * ((id - 7) / 22) + 9) + 10; omega)⟩)
theorem mG_b {k r : Nat} (hr : r < 22) : mnG (22 * k + r + 7) = mB k + p22 r := by
  show mB ((22 * k + r) / 22) + p22 ((22 * k + r) % 22) = _
  rw [show (22 * k + r) / 22 = k by omega, show (22 * k + r) % 22 = r by omega]
section MP
variable {h0 : Nat} {t0 t1 : sT} {h b : Nat} {cB : ClassId} {t : Nat → sT} {x ch d : Nat} {cC : ClassId} {g : Nat} {D : va_G}
theorem mn_id {id : Nat} (hid : id < 139) : ∃ e : va_E, (mnF h0 t0 t1 h b cB t x ch d cC g)[mnG id]? = some ((mnY h0 (mT t0 t1 t) h b cB x ch d cC g D).2.1 id, e) ∧ ∀ H : Heap, va_at D vwCl ((mnY h0 (mT t0 t1 t) h b cB x ch d cC g D).2.1 id, e) H → va_at D vwCl ((mnY h0 (mT t0 t1 t) h b cB x ch d cC g D).2.1 id, rce shC (mnY h0 (mT t0 t1 t) h b cB x ch d cC g D) vC0 id) H := by
  rcases id_cases hid with h7 | ⟨k, hk, rfl | rfl | ⟨i, hi, rfl | rfl⟩⟩
  · have c7 : id = 0 ∨ id = 1 ∨ id = 2 ∨ id = 3 ∨ id = 4 ∨ id = 5 ∨ id = 6 := by omega
    rcases c7 with rfl | rfl | rfl | rfl | rfl | rfl | rfl
    · exact ⟨eM t0.1 t1.1 h x g, rfl, fun H q => q⟩
    · exact ⟨eH b, mn_hi (n := 0) (by decide), fun H q => q⟩
    · refine ⟨eR cB 4 4 (fun j => (t j).1), mn_hi (n := 1) (by decide), fun H q => ?_⟩
      rw [rce_arr (show shC 2 = .inr (2, 4) from rfl)]
      refine at_refs (fun j hj => ?_) q
      rw [if_pos hj]
      show _ = some ((mnY h0 (mT t0 t1 t) h b cB x ch d cC g D).2.1 (nI (sid (j + 2))).toNatClampNeg)
      rw [nI_sid (by omega)]
      refine congrArg some ?_
      show (t j).1 = (mnY h0 (mT t0 t1 t) h b cB x ch d cC g D).2.1 (22 * (j + 2) + 0 + 7)
      rw [mY_b (k := j + 2) (r := 0) (by decide)]
      rfl
    · exact ⟨eX ch d, mn_tx (n := 0) (by decide), fun H q => q⟩
    · exact ⟨eCh cC, mn_tx (n := 1) (by decide), fun H q => q⟩
    · exact ⟨eD, mn_tx (n := 2) (by decide), fun H q => q⟩
    · exact ⟨eD, mn_g, fun H q => q⟩
  · refine ⟨eS (mT t0 t1 t k).2.1, ?_, fun H q => by rw [ms_s hk]; exact q⟩
    rw [show mnG (sid k) = mB k + 0 from mG_b (k := k) (r := 0) (by decide), mn_at hk (by decide), show (mnY h0 (mT t0 t1 t) h b cB x ch d cC g D).2.1 (sid k) = (mT t0 t1 t k).1 from mY_b (k := k) (r := 0) (by decide)]
    rfl
  · refine ⟨eR (mT t0 t1 t k).2.2.1 10 10 (mT t0 t1 t k).2.2.2.1, ?_, fun H q => ms_a hk ?_⟩
    · rw [show mnG (aid k) = mB k + 1 from mG_b (k := k) (r := 1) (by decide), mn_at hk (by decide), show (mnY h0 (mT t0 t1 t) h b cB x ch d cC g D).2.1 (aid k) = (mT t0 t1 t k).2.1 from mY_b (k := k) (r := 1) (by decide)]
      rfl
    · rw [show (mnY h0 (mT t0 t1 t) h b cB x ch d cC g D).2.1 (aid k) = (mT t0 t1 t k).2.1 from mY_b (k := k) (r := 1) (by decide)] at q
      exact q
  · refine ⟨eC ((mT t0 t1 t k).2.2.2.2 i), ?_, fun H q => by rw [ms_c hk hi]; exact q⟩
    rw [mY_c hi, show mnG (cid k i) = mB k + p22 (i + 2) from by rw [show cid k i = 22 * k + (i + 2) + 7 from by show i + (22 * k + 9) = _; omega, mG_b (by omega)], mn_at hk (p22_lt (by omega))]
    exact stF_c hi
  · refine ⟨eD, ?_, fun H q => by rw [ms_d hk hi]; exact q⟩
    rw [mY_d hi, show mnG (did k i) = mB k + p22 (i + 12) from by rw [show did k i = 22 * k + (i + 12) + 7 from by show i + (22 * k + 9) + 10 = _; omega, mG_b (by omega)], mn_at hk (p22_lt (by omega))]
    exact stF_d hi
theorem mn_P {H : Heap} (q : va_P D vwCl (mnF h0 t0 t1 h b cB t x ch d cC g) H) : rcW shC 139 (mnY h0 (mT t0 t1 t) h b cB x ch d cC g D) vC0 H := by
  intro id z hz
  obtain ⟨hid, rfl⟩ := rcw_lt hz
  obtain ⟨e, h1, h2⟩ := mn_id (D := D) (h0 := h0) (t0 := t0) (t1 := t1) (h := h) (b := b) (cB := cB) (t := t) (x := x) (ch := ch) (d := d) (cC := cC) (g := g) hid
  exact h2 H (q _ _ h1)
theorem mn_inj {A : Nat → Prop} (q : va_D A (mnF h0 t0 t1 h b cB t x ch d cC g)) : ∀ i j, i < 139 → j < 139 → (mnY h0 (mT t0 t1 t) h b cB x ch d cC g D).2.1 i = (mnY h0 (mT t0 t1 t) h b cB x ch d cC g D).2.1 j → i = j := by
  intro i j hi hj e
  obtain ⟨e1, h1, -⟩ := mn_id (D := D) (h0 := h0) (t0 := t0) (t1 := t1) (h := h) (b := b) (cB := cB) (t := t) (x := x) (ch := ch) (d := d) (cC := cC) (g := g) hi
  obtain ⟨e2, h2, -⟩ := mn_id (D := D) (h0 := h0) (t0 := t0) (t1 := t1) (h := h) (b := b) (cB := cB) (t := t) (x := x) (ch := ch) (d := d) (cC := cC) (g := g) hj
  have z := q.1 _ _ _ _ h1 h2 e
  rw [← mnI_G i hi, ← mnI_G j hj, z]
theorem mn_K {s : State} (q : va_K D vwCl (mnK t0 t1 cB t cC) s) : ∀ id y n, id < 139 → shC id = .inr (y, n) → ArrOfT s ((mnY h0 (mT t0 t1 t) h b cB x ch d cC g D).1 id) (rcty y) ∧ va_RA s ((mnY h0 (mT t0 t1 t) h b cB x ch d cC g D).1 id) (rcty y) := by
  intro id y n hid hs
  rcases id_cases hid with h7 | ⟨k, hk, rfl | rfl | ⟨i, hi, rfl | rfl⟩⟩
  · have c7 : id = 0 ∨ id = 1 ∨ id = 2 ∨ id = 3 ∨ id = 4 ∨ id = 5 ∨ id = 6 := by omega
    rcases c7 with rfl | rfl | rfl | rfl | rfl | rfl | rfl
    · cases hs
    · cases hs
    · cases hs
      exact q.2 2 _ rfl
    · cases hs
    · cases hs
      exact q.2 7 _ rfl
    · cases hs
    · cases hs
  · rw [(sh_st hk).2] at hs
    cases hs
  · rw [(sh_arr hk).2] at hs
    cases hs
    rw [mY_k]
    have c6 : k = 0 ∨ k = 1 ∨ k = 2 ∨ k = 3 ∨ k = 4 ∨ k = 5 := by omega
    rcases c6 with rfl | rfl | rfl | rfl | rfl | rfl
    · exact q.2 0 _ rfl
    · exact q.2 1 _ rfl
    · exact q.2 3 _ rfl
    · exact q.2 4 _ rfl
    · exact q.2 5 _ rfl
    · exact q.2 6 _ rfl
  · rw [(sh_cell hk hi).2] at hs
    cases hs
  · rw [(sh_def hk hi).2] at hs
    cases hs
end MP
def f00 : Nat → Int32 := upd (fun _ => 0) 5 10
theorem f00_ix {i w : Nat} : f00 (ix i w) = 0 := by
  unfold f00 upd ix
  rw [if_neg (by omega)]
theorem rep0 {k : Nat} : Rep vC0 k f00 := by
  refine ⟨fun i hi => ?_, ?_⟩
  · have e : ∀ j, vC0 (cid k i) j = if j = 5 then -1 else 0 := fun j => congrFun (vC_c hi) j
    have e2 : ∀ j, vC0 (cid k i + 10) j = if j = 0 then -1 else 0 := fun j => congrFun (vC_d hi) j
    unfold RpC
    simp only [f00_ix, e, e2]
    refine ⟨⟨by decide, by decide, by decide, by decide, by decide⟩, fun _ => by decide, by decide, fun z => absurd z (by decide)⟩
  · have e : ∀ j, vC0 (sid k) j = vB 0 j := fun j => congrFun vC_s j
    unfold RpS
    simp only [e]
    decide
theorem CR0 : CR vC0 f00 (fun _ => 0) 0 (fun _ => 0) 0 := by
  refine ⟨rep0, rfl, ⟨fun j => j + 2, ⟨fun j hj => ⟨?_, by show 2 ≤ j + 2; omega, by show j + 2 < 6; omega⟩, fun i j _ _ e => by have e : i + 2 = j + 2 := e; omega⟩, fun j hj => absurd hj (Nat.not_lt_zero j)⟩, rfl, fun i hi => absurd hi (Nat.not_lt_zero i)⟩
  show (nI (sid (j + 2))).toNatClampNeg = sid (j + 2)
  exact nI_sid (by omega)
theorem WF0 : WF f00 := by
  refine ⟨fun i hi => ?_, by decide, by decide⟩
  unfold wfCell
  exact ⟨⟨0, by decide, f00_ix⟩, fun _ => ⟨by rw [f00_ix]; decide, by rw [f00_ix]; decide, f00_ix, f00_ix, f00_ix, by rw [f00_ix]; decide, f00_ix⟩, fun z => absurd f00_ix z, Or.inl f00_ix, fun z => absurd (f00_ix.symm.trans z) (by decide)⟩
theorem PI0 : PI f00 (fun _ => 0) 0 0 0 := ⟨⟨WF0, by decide⟩, fun j hj => absurd hj (Nat.not_lt_zero j), by decide, by decide⟩
