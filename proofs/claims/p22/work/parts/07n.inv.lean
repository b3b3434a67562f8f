/-! What holds of every state: counts, places, and all of it together. -/
def Ct (b : Int) (g : Nat → Int32) : Prop := 0 ≤ (g 7).toInt ∧ (g 7).toInt ≤ b ∧ 0 ≤ (g 6).toInt ∧ (g 6).toInt ≤ (g 1).toInt ∧ (g 1).toInt ≤ b ∧
  (∀ i, i < 10 → g (ix i 6) = 1 → (g (ix i 13)).toInt ≤ (g 7).toInt) ∧ ∀ i j, i < 10 → j < 10 → i ≠ j → g (ix i 6) = 1 → g (ix j 6) = 1 → g (ix i 13) ≠ g (ix j 13)
theorem Ct.up {b c : Int} {g : Nat → Int32} (h : Ct b g) (hb : b ≤ c) : Ct c g := ⟨h.1, by have := h.2.1; omega, h.2.2.1, h.2.2.2.1, by have := h.2.2.2.2.1; omega, h.2.2.2.2.2⟩
theorem uses_7 {f : Nat → Int32} {c : Nat} : A_uses f c 7 = f 7 + 1 := by
  unfold A_uses
  rw [pk_un (ix_h (by decide)), pk_us]
theorem uses_g {f : Nat → Int32} {c k : Nat} (hk : k < 7) : A_uses f c k = f k := by
  unfold A_uses
  rw [pk_un (ix_h (by omega)), pk_un (by omega)]
theorem uses_o {f : Nat → Int32} {c i j : Nat} (h : ix i j ≠ ix c 13) : A_uses f c (ix i j) = f (ix i j) := by
  unfold A_uses
  rw [pk_un h, pk_un (ix_g (by decide))]
theorem uses_s {f : Nat → Int32} {c : Nat} : A_uses f c (ix c 13) = f 7 + 1 := by
  unfold A_uses
  rw [pk_us]
theorem Ct.uses {b : Int} {g h : Nat → Int32} {c : Nat} (a : Ct b g) (hb : b < 2 ^ 31 - 1) (h7 : h 7 = g 7) (hk : (h 6 = g 6 ∧ h 1 = g 1) ∨ (h 1 = g 1 + 1 ∧ (h 6 = g 6 ∨ h 6 = g 6 + 1)))
    (ho : ∀ i, i ≠ c → h (ix i 6) = g (ix i 6) ∧ h (ix i 13) = g (ix i 13)) : Ct (b + 1) (A_uses h c) := by
  obtain ⟨a1, a2, a3, a4, a5, a6, a7⟩ := a
  have i7 := inc_toInt a1 (by omega)
  have i1 := inc_toInt (x := g 1) (by omega) (by omega)
  have i6 := inc_toInt (x := g 6) a3 (by omega)
  have p6 : ∀ i, A_uses h c (ix i 6) = h (ix i 6) := fun i => uses_o (fun e => by unfold ix at e; omega)
  have p13 : ∀ i, i ≠ c → A_uses h c (ix i 13) = h (ix i 13) := fun i hi => uses_o (ix_o hi (by decide) (by decide))
  unfold Ct
  rw [uses_7, uses_g (by decide), uses_g (by decide), h7, i7]
  have nx : ∀ i, i < 10 → i ≠ c → g (ix i 6) = 1 → g (ix i 13) ≠ g 7 + 1 := fun i hi hc h6 e => by
    have q := a6 i hi h6
    rw [e, i7] at q
    omega
  refine ⟨by omega, by omega, ?_, ?_, ?_, fun i hi h6 => ?_, fun i j hi hj hij h6 k6 => ?_⟩
  · rcases hk with ⟨k1, k2⟩ | ⟨k1, k2 | k2⟩
    · rw [k1]; exact a3
    · rw [k2]; exact a3
    · rw [k2, i6]; omega
  · rcases hk with ⟨k1, k2⟩ | ⟨k1, k2 | k2⟩
    · rw [k1, k2]; exact a4
    · rw [k1, k2, i1]; omega
    · rw [k1, k2, i6, i1]; omega
  · rcases hk with ⟨k1, k2⟩ | ⟨k1, -⟩
    · rw [k2]; omega
    · rw [k1, i1]; omega
  · rw [p6] at h6
    by_cases e : i = c
    · subst e
      rw [uses_s, h7, i7]
      omega
    · rw [(ho i e).1] at h6
      rw [p13 i e, (ho i e).2]
      have := a6 i hi h6
      omega
  · rw [p6] at h6 k6
    by_cases e : i = c
    · subst e
      have ej : j ≠ i := fun q => hij q.symm
      rw [(ho j ej).1] at k6
      rw [uses_s, p13 j ej, (ho j ej).2, h7]
      exact (nx j hj ej k6).symm
    · rw [(ho i e).1] at h6
      by_cases e2 : j = c
      · subst e2
        rw [uses_s, p13 i e, (ho i e).2, h7]
        exact nx i hi e h6
      · rw [(ho j e2).1] at k6
        rw [p13 i e, p13 j e2, (ho i e).2, (ho j e2).2]
        exact a7 i j hi hj hij h6 k6
theorem Ct.take {b : Int} {g : Nat → Int32} {c : Nat} (a : Ct b g) (hb : b < 2 ^ 31 - 1) : Ct (b + 1) (A_take g c) :=
  a.uses (h := upd g 3 (g 3 + 1)) hb (pk_un (by decide)) (Or.inl ⟨pk_un (by decide), pk_un (by decide)⟩) (fun i _ => ⟨pk_un (ix_g (by decide)), pk_un (ix_g (by decide))⟩)
theorem Ct.keep {b : Int} {g : Nat → Int32} {c : Nat} (a : Ct b g) (hb : b < 2 ^ 31 - 1) : Ct (b + 1) (A_keep g c) := by
  rw [K0_keep]
  unfold K0
  exact a.uses hb (by rw [pk_un (by decide), pk_un (ix_h (by decide))]) (Or.inl ⟨by rw [pk_un (by decide), pk_un (ix_h (by decide))], by rw [pk_un (by decide), pk_un (ix_h (by decide))]⟩) (fun i hi => ⟨by rw [pk_un (ix_g (by decide)), pk_un (ix_o hi (by decide) (by decide))], by rw [pk_un (ix_g (by decide)), pk_un (ix_o hi (by decide) (by decide))]⟩)
theorem Ct.row {b : Int} {g : Nat → Int32} {c : Nat} {ds ch its many o2 : Int32} (a : Ct b g) (hb : b < 2 ^ 31 - 1) (hd : ds = 0 ∨ ds = 1) : Ct (b + 1) (A_uses (E_row g c ds ch its many o2) c) := by
  refine a.uses hb (E_o (by decide) (by decide) (fun q _ _ => ix_h (by decide))) (Or.inr ⟨E_1, ?_⟩) (fun i hi => ⟨E_o (ix_g (by decide)) (ix_g (by decide)) (fun q _ _ => ix_o hi (by decide) (by omega)), E_o (ix_g (by decide)) (ix_g (by decide)) (fun q _ _ => ix_o hi (by decide) (by omega))⟩)
  rw [E_6]
  rcases hd with rfl | rfl
  · exact Or.inl (Int32.add_zero _)
  · exact Or.inr rfl
theorem Ct.ended {b : Int} {g : Nat → Int32} {c : Nat} {its many o2 : Int32} (a : Ct b g) (hb : b < 2 ^ 31 - 1) : Ct (b + 1) (A_end g c its many o2) := by
  rw [E0_end]
  unfold E0
  split
  · exact a.row hb (Or.inr rfl)
  · exact a.row hb (Or.inl rfl)
/-- how many uses a look makes at most -/
def Ub : Nat → Int
  | 0 => 0
  | n + 1 => 4 * Ub n + 1
theorem Ub_nn : ∀ n, 0 ≤ Ub n
  | 0 => Int.le_refl _
  | n + 1 => by have := Ub_nn n; show 0 ≤ 4 * Ub n + 1; omega
def LCt (n : Nat) : Prop := ∀ (O : List Nat) (g : Nat → Int32) (c : Nat) (h : Nat → Int32) (b : Int), c < 10 → Pre O g → Ct b g → b + Ub n < 2 ^ 31 - 1 → A_look n O g c = some h → Ct (b + Ub n) h
theorem A_work_ct {n : Nat} (ih : LCt n) {O : List Nat} {g h : Nat → Int32} {c : Nat} {b : Int} (hc : c < 10) (h0 : ¬ g (ix c 0) = 0) (hP : Pre (c :: O) g) (a : Ct b g) (hb : b + 2 * Ub n + 1 < 2 ^ 31 - 1) (e : A_work n O g c = some h) : Ct (b + 2 * Ub n + 1) h := by
  have hu := Ub_nn n
  unfold A_work at e
  have hx := cN_ok ((hP.1.1 c hc).2.2.1 h0).2.1
  cases e1 : A_look n (c :: O) g (cN (g (ix c 2))) with
  | none => rw [e1] at e; cases e
  | some f1 =>
    rw [e1] at e
    have a1 := ih _ _ _ _ b hx.1 hP a (by omega) e1
    obtain ⟨g1, fr1⟩ := A_look_good n _ _ _ _ hx.1 hP e1
    have P1 := hP.next g1
    have h01 : ¬ f1 (ix c 0) = 0 := by rw [g1.2.2.2.1 c hc 0 (by decide)]; exact h0
    dsimp only at e
    split at e
    · cases e
      exact (a1.ended (by omega)).up (by omega)
    · have hy := cN_ok (nxt_ok (x := A_ans f1 (cN (g (ix c 2)))) P1.1 hc h01)
      cases e2 : A_look n (c :: O) f1 (cN (A_nxt f1 c (A_ans f1 (cN (g (ix c 2)))))) with
      | none => rw [e2] at e; cases e
      | some f2 =>
        rw [e2] at e
        cases e
        have a2 := ih _ _ _ _ (b + Ub n) hy.1 P1 a1 (by omega) e2
        exact (a2.ended (by omega)).up (by omega)
theorem A_chk_ct {n : Nat} (ih : LCt n) {O : List Nat} {g h : Nat → Int32} {c : Nat} {b : Int} (hc : c < 10) (h0 : ¬ g (ix c 0) = 0) (h6 : g (ix c 6) = 1) (hP : Pre (c :: O) g) (a : Ct b g) (hb : b + 4 * Ub n + 1 < 2 ^ 31 - 1) (e : A_chk n O g c = some h) : Ct (b + 4 * Ub n + 1) h := by
  have hu := Ub_nn n
  unfold A_chk at e
  have hx := cN_ok ((hP.1.1 c hc).2.2.1 h0).2.1
  rw [((hP.1.1 c hc).2.2.2.2 h6).1] at e
  cases e1 : A_look n (c :: O) g (cN (g (ix c 2))) with
  | none => rw [e1] at e; cases e
  | some f1 =>
    rw [e1] at e
    have a1 := ih _ _ _ _ b hx.1 hP a (by omega) e1
    obtain ⟨g1, fr1⟩ := A_look_good n _ _ _ _ hx.1 hP e1
    have P1 := hP.next g1
    have s1 : ∀ j, j < 15 → f1 (ix c j) = g (ix c j) := g1.2.2.2.2.1 c List.mem_cons_self
    have h01 : ¬ f1 (ix c 0) = 0 := by rw [s1 0 (by decide)]; exact h0
    have h61 : f1 (ix c 6) = 1 := by rw [s1 6 (by decide)]; exact h6
    dsimp only at e
    split at e
    · exact (A_work_ct ih hc h01 P1 a1 (by omega) e).up (by omega)
    · split at e
      · cases e
        exact (a1.keep (by omega)).up (by omega)
      · rename_i hm
        have hy := cN_ok ((((P1.1.1 c hc).2.2.2.2 h61).2.1).resolve_left hm).2
        cases e2 : A_look n (c :: O) f1 (cN (f1 (ix c 12))) with
        | none => rw [e2] at e; cases e
        | some f2 =>
          rw [e2] at e
          have a2 := ih _ _ _ _ (b + Ub n) hy.1 P1 a1 (by omega) e2
          obtain ⟨g2, fr2⟩ := A_look_good n _ _ _ _ hy.1 P1 e2
          have P2 := P1.next g2
          have h02 : ¬ f2 (ix c 0) = 0 := by rw [g2.2.2.2.1 c hc 0 (by decide)]; exact h01
          dsimp only at e
          split at e
          · exact (A_work_ct ih hc h02 P2 a2 (by omega) e).up (by omega)
          · cases e
            exact (a2.keep (by omega)).up (by omega)
theorem A_look_ct : ∀ n, LCt n := by
  intro n
  induction n with
  | zero => intro O g c h b _ _ _ _ e; cases e
  | succ n ih =>
    intro O g c h b hc hP a hb e
    have hu := Ub_nn n
    have hb : b + (4 * Ub n + 1) < 2 ^ 31 - 1 := hb
    show Ct (b + (4 * Ub n + 1)) h
    rw [A_look_s] at e
    by_cases h0 : g (ix c 0) = 0
    · rw [if_pos h0] at e; cases e
      exact a.up (by omega)
    · rw [if_neg h0] at e
      by_cases h6 : g (ix c 6) = 1 ∧ g (ix c 9) = g 0
      · rw [if_pos h6] at e; cases e
        exact (a.take (by omega)).up (by omega)
      · rw [if_neg h6] at e
        by_cases hO : c ∈ O
        · rw [if_pos hO] at e; cases e
        · rw [if_neg hO] at e
          have hP' := hP.opn h0 h6
          by_cases h1 : g (ix c 6) = 1
          · rw [if_pos h1] at e
            exact (A_chk_ct ih hc h0 h1 hP' a (by omega) e).up (by omega)
          · rw [if_neg h1] at e
            exact (A_work_ct ih hc h0 hP' a (by omega) e).up (by omega)
/-- a state's row, as calls can make it; b bounds its numbers -/
def INV (f : Nat → Int32) (b : Int) : Prop := WF f ∧ (∃ D, Sv D f) ∧ Ct b f ∧ (f 5).toInt ≤ 10 ∧ (f 0).toInt ≤ b
theorem INV.up {f : Nat → Int32} {b c : Int} (h : INV f b) (hb : b ≤ c) : INV f c := ⟨h.1, h.2.1, h.2.2.1.up hb, h.2.2.2.1, by have := h.2.2.2.2; omega⟩
/-- rows with the same cells -/
theorem Sv.cong {D : Dh} {g h : Nat → Int32} (a : Sv D g) (hw : WF g) (h0 : h 0 = g 0) (hc : ∀ i, i < 10 → ∀ j, j < 15 → h (ix i j) = g (ix i j)) : Sv D h := by
  have bn : ∀ u r, u < 10 → Bn D g u r → Bn D h u r := fun u r hu b => b.eq (fun j hj => hc u hu j (by omega))
  refine ⟨fun i hi => ?_, fun i hi => ?_⟩
  · obtain ⟨p, q⟩ := a.1 i hi
    unfold Dc
    rw [hc i hi 5 (by decide), h0]
    exact ⟨p, fun r h1 h2 j hj => by rw [hc i hi j (by omega)]; exact q r h1 h2 j hj⟩
  · intro h6
    rw [hc i hi 6 (by decide)] at h6
    obtain ⟨r1, r2, r3, s1, s2, x, s3, s4⟩ := a.2 i hi h6
    have k0 := has_f hw hi h6
    have hx := cN_ok ((hw.1 i hi).2.2.1 k0).2.1
    have en : A_nxt h i x = A_nxt g i x := nxt_f (fun j hj => hc i hi j (by omega))
    rw [hc i hi 5 (by decide), hc i hi 8 (by decide), hc i hi 9 (by decide), h0]
    refine ⟨r1, r2, r3, ?_⟩
    unfold Sem
    rw [hc i hi 7 (by decide), hc i hi 2 (by decide), hc i hi 10 (by decide), hc i hi 0 (by decide), hc i hi 12 (by decide)]
    refine ⟨s1, bn _ _ hx.1 s2, x, s3, ?_⟩
    rw [en]
    rcases s4 with q | ⟨q1, q2, q3, q4⟩
    · exact Or.inl q
    · refine Or.inr ⟨q1, q2, q3, bn _ _ ?_ q4⟩
      have := (cN_ok ((((hw.1 i hi).2.2.2.2 h6).2.1).resolve_left (fun z => by rw [q1] at z; exact absurd z (by decide))).2).1
      exact this
theorem INV.row {f g : Nat → Int32} {b : Int} (h : INV f b) (e : ∀ k, k < 158 → g k = f k) : INV g b := by
  have ec : ∀ i, i < 10 → ∀ j, j < 15 → g (ix i j) = f (ix i j) := fun i hi j hj => e _ (by unfold ix; omega)
  obtain ⟨h1, ⟨D, h2⟩, h3, h4, h5⟩ := h
  refine ⟨WF_row e h1, ⟨D, h2.cong h1 (e 0 (by decide)) ec⟩, ?_, by rw [e 5 (by decide)]; exact h4, by rw [e 0 (by decide)]; exact h5⟩
  unfold Ct at h3 ⊢
  rw [e 7 (by decide), e 6 (by decide), e 1 (by decide)]
  refine ⟨h3.1, h3.2.1, h3.2.2.1, h3.2.2.2.1, h3.2.2.2.2.1, fun i hi h6 => ?_, fun i j hi hj hij h6 k6 => ?_⟩
  · rw [ec i hi 6 (by decide)] at h6
    rw [ec i hi 13 (by decide)]
    exact h3.2.2.2.2.2.1 i hi h6
  · rw [ec i hi 6 (by decide)] at h6
    rw [ec j hj 6 (by decide)] at k6
    rw [ec i hi 13 (by decide), ec j hj 13 (by decide)]
    exact h3.2.2.2.2.2.2 i j hi hj hij h6 k6
