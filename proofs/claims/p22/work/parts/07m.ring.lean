/-! Looks that find a ring are right. -/
def LN (D : Dh) (n : Nat) : Prop := ∀ (O : List Nat) (g : Nat → Int32) (c : Nat), c < 10 → Pre O g → OkO O → O.length + n = 11 → Sv D g → (∀ o, o ∈ O → Desc (D (g 0).toInt) o c) → A_look n O g c = none → Never (D (g 0).toInt) c
theorem desc_a {F g : Nat → Int32} {c : Nat} (d : SameD F g c) (h0 : ¬ g (ix c 0) = 0) : Desc F c (cN (g (ix c 2))) := by
  rw [← d 2 (by decide)]
  exact desc_1 (by rw [d 0 (by decide)]; exact h0)
theorem desc_b {F g : Nat → Int32} {c : Nat} {x : Int32} (d : SameD F g c) (h0 : ¬ g (ix c 0) = 0) (hx : EvA F (cN (g (ix c 2))) x) (hs : ¬ (g (ix c 0) = 5 ∧ x = 2000000000)) : Desc F c (cN (A_nxt g c x)) := by
  obtain ⟨m, S, e⟩ := hx
  rw [← nxt_f d]
  exact desc_2 (k := m) (S := S) (by rw [d 0 (by decide)]; exact h0) (by rw [d 2 (by decide)]; exact e) (by rw [d 0 (by decide)]; exact hs)
theorem desc_up {F : Nat → Int32} {O : List Nat} {c u : Nat} (hD : ∀ o, o ∈ O → Desc F o c) (h : Desc F c u) : ∀ o, o ∈ c :: O → Desc F o u := fun o ho => by
  rcases List.mem_cons.mp ho with rfl | ho
  · exact h
  · exact (hD o ho).tr h
theorem A_work_ring {D : Dh} {n : Nat} (ih : LN D n) {O : List Nat} {g : Nat → Int32} {c : Nat} (hc : c < 10) (h0 : ¬ g (ix c 0) = 0) (hP : Pre (c :: O) g) (hO : OkO (c :: O)) (hn : (c :: O).length + n = 11) (a : Sv D g) (hD : ∀ o, o ∈ O → Desc (D (g 0).toInt) o c) (e : A_work n O g c = none) : Never (D (g 0).toInt) c := by
  unfold A_work at e
  have hx := cN_ok ((hP.1.1 c hc).2.2.1 h0).2.1
  have D1 := desc_a (a.d hc) h0
  cases e1 : A_look n (c :: O) g (cN (g (ix c 2))) with
  | none => exact D1.never (ih _ _ _ hx.1 hP hO hn a (desc_up hD D1) e1)
  | some f1 =>
    rw [e1] at e
    obtain ⟨a1, v1⟩ := A_look_right n _ _ _ _ hx.1 hP a e1
    obtain ⟨g1, fr1⟩ := A_look_good n _ _ _ _ hx.1 hP e1
    have P1 := hP.next g1
    have s1 : ∀ j, j < 15 → f1 (ix c j) = g (ix c j) := g1.2.2.2.2.1 c List.mem_cons_self
    have z1 : f1 0 = g 0 := g1.1
    have h01 : ¬ f1 (ix c 0) = 0 := by rw [s1 0 (by decide)]; exact h0
    rw [← z1] at v1 hD ⊢
    rw [← s1 2 (by decide)] at e v1
    dsimp only at e
    by_cases hs : f1 (ix c 0) = 5 ∧ A_ans f1 (cN (f1 (ix c 2))) = 2000000000
    · rw [if_pos hs] at e; cases e
    · rw [if_neg hs] at e
      have hy := cN_ok (nxt_ok (x := A_ans f1 (cN (f1 (ix c 2)))) P1.1 hc h01)
      have D2 := desc_b (a1.d hc) h01 v1 hs
      cases e2 : A_look n (c :: O) f1 (cN (A_nxt f1 c (A_ans f1 (cN (f1 (ix c 2)))))) with
      | none => exact D2.never (ih _ _ _ hy.1 P1 hO hn a1 (desc_up hD D2) e2)
      | some f2 => rw [e2] at e; cases e
theorem A_chk_ring {D : Dh} {n : Nat} (ih : LN D n) {O : List Nat} {g : Nat → Int32} {c : Nat} (hc : c < 10) (h0 : ¬ g (ix c 0) = 0) (h6 : g (ix c 6) = 1) (hP : Pre (c :: O) g) (hO : OkO (c :: O)) (hn : (c :: O).length + n = 11) (a : Sv D g) (hD : ∀ o, o ∈ O → Desc (D (g 0).toInt) o c) (e : A_chk n O g c = none) : Never (D (g 0).toInt) c := by
  unfold A_chk at e
  have hx := cN_ok ((hP.1.1 c hc).2.2.1 h0).2.1
  have D1 := desc_a (a.d hc) h0
  rw [((hP.1.1 c hc).2.2.2.2 h6).1] at e
  cases e1 : A_look n (c :: O) g (cN (g (ix c 2))) with
  | none => exact D1.never (ih _ _ _ hx.1 hP hO hn a (desc_up hD D1) e1)
  | some f1 =>
    rw [e1] at e
    obtain ⟨a1, v1⟩ := A_look_right n _ _ _ _ hx.1 hP a e1
    obtain ⟨g1, fr1⟩ := A_look_good n _ _ _ _ hx.1 hP e1
    have P1 := hP.next g1
    have s1 : ∀ j, j < 15 → f1 (ix c j) = g (ix c j) := g1.2.2.2.2.1 c List.mem_cons_self
    have z1 : f1 0 = g 0 := g1.1
    have h01 : ¬ f1 (ix c 0) = 0 := by rw [s1 0 (by decide)]; exact h0
    have h61 : f1 (ix c 6) = 1 := by rw [s1 6 (by decide)]; exact h6
    rw [← z1] at v1 hD ⊢
    rw [← s1 2 (by decide)] at e v1 fr1 hx
    dsimp only at e
    by_cases hl : f1 (ix c 9) < A_chg f1 (cN (f1 (ix c 2)))
    · rw [if_pos hl] at e
      exact A_work_ring ih hc h01 P1 hO hn a1 hD e
    · rw [if_neg hl] at e
      obtain ⟨q1, q2, q3, q4, q5, x, q6, q7⟩ := a1.2 c hc h61
      have w1 := unch a1 hx.1 fr1 q3 (le_of_nlt hl) q5
      have ex := q6.uniq w1
      subst ex
      by_cases hm : f1 (ix c 10) = 1
      · rw [if_pos hm] at e; cases e
      · rw [if_neg hm] at e
        obtain ⟨hm2, hs, h12, -⟩ := q7.resolve_left (fun q => hm q.1)
        rw [h12] at e
        have hy := cN_ok (nxt_ok (x := A_ans f1 (cN (f1 (ix c 2)))) P1.1 hc h01)
        have D2 := desc_b (a1.d hc) h01 v1 hs
        cases e2 : A_look n (c :: O) f1 (cN (A_nxt f1 c (A_ans f1 (cN (f1 (ix c 2)))))) with
        | none => exact D2.never (ih _ _ _ hy.1 P1 hO hn a1 (desc_up hD D2) e2)
        | some f2 =>
          rw [e2] at e
          obtain ⟨a2, v2⟩ := A_look_right n _ _ _ _ hy.1 P1 a1 e2
          obtain ⟨g2, fr2⟩ := A_look_good n _ _ _ _ hy.1 P1 e2
          have P2 := P1.next g2
          have s2 : ∀ j, j < 15 → f2 (ix c j) = f1 (ix c j) := g2.2.2.2.2.1 c List.mem_cons_self
          have z2 : f2 0 = f1 0 := g2.1
          have h02 : ¬ f2 (ix c 0) = 0 := by rw [s2 0 (by decide)]; exact h01
          rw [← z2] at hD ⊢
          dsimp only at e
          by_cases hl2 : f2 (ix c 9) < A_chg f2 (cN (A_nxt f1 c (A_ans f1 (cN (f1 (ix c 2))))))
          · rw [if_pos hl2] at e
            exact A_work_ring ih hc h02 P2 hO hn a2 hD e
          · rw [if_neg hl2] at e; cases e
theorem A_look_ring {D : Dh} : ∀ n, LN D n := by
  intro n
  induction n with
  | zero =>
    intro O g c _ _ hO hn
    have := hO.len
    omega
  | succ n ih =>
    intro O g c hc hP hO hn a hD e
    rw [A_look_s] at e
    by_cases h0 : g (ix c 0) = 0
    · rw [if_pos h0] at e; cases e
    · rw [if_neg h0] at e
      by_cases h6 : g (ix c 6) = 1 ∧ g (ix c 9) = g 0
      · rw [if_pos h6] at e; cases e
      · rw [if_neg h6] at e
        by_cases hcO : c ∈ O
        · exact (hD c hcO).self
        · rw [if_neg hcO] at e
          have hP' := hP.opn h0 h6
          have hO' := hO.cons hc hcO
          have hn' : (c :: O).length + n = 11 := by rw [List.length_cons]; omega
          by_cases h1 : g (ix c 6) = 1
          · rw [if_pos h1] at e
            exact A_chk_ring ih hc h0 h1 hP' hO' hn' a hD e
          · rw [if_neg h1] at e
            exact A_work_ring ih hc h0 hP' hO' hn' a hD e
/-- answers afresh by a row, by another one with the same definitions -/
theorem ev_cong {F g : Nat → Int32} (hw : WD g) (h : ∀ i, i < 10 → SameD F g i) : ∀ m c, c < 10 → ev m F c = ev m g c := by
  intro m
  induction m with
  | zero => intro c _; rfl
  | succ m ih =>
    intro c hc
    have d := h c hc
    rw [ev_s, ev_s, d 0 (by decide), d 1 (by decide), d 2 (by decide)]
    by_cases h0 : g (ix c 0) = 0
    · rw [if_pos h0, if_pos h0]
    · rw [if_neg h0, if_neg h0, ih _ (cN_ok ((hw c hc).2 h0).1).1]
      cases e : ev m g (cN (g (ix c 2))) with
      | none => rfl
      | some q =>
        obtain ⟨x, S⟩ := q
        dsimp only
        rw [nxt_f d, ih _ (cN_ok (hw.nxt hc h0)).1]
theorem Sv.ev {D : Dh} {g : Nat → Int32} (a : Sv D g) (hw : WF g) {m c : Nat} (hc : c < 10) : ev m (D (g 0).toInt) c = ev m g c := ev_cong hw.wd (fun i hi => a.d hi) m c hc
/-- a look from no cell, and what is worked out afresh -/
theorem look_EV {D : Dh} {g : Nat → Int32} {c : Nat} (a : Sv D g) (hw : WF g) (hc : c < 10) : match A_look 11 [] g c with
    | none => EV g c = none
    | some h => Sv D h ∧ ∃ S, EV g c = some (A_ans h c, S) := by
  cases e : A_look 11 [] g c with
  | none =>
    have q := A_look_ring 11 [] g c hc (pre_0 hw) oko_0 rfl a (fun o ho => by cases ho) e
    exact EV_none (fun m => by rw [← a.ev hw hc]; exact q m)
  | some h =>
    obtain ⟨b, m, S, v⟩ := A_look_right 11 [] g c h hc (pre_0 hw) a e
    rw [a.ev hw hc] at v
    exact ⟨b, S, EV_some v⟩
/-- an answer seen now is the one that is worked out afresh -/
theorem now_EV {D : Dh} {g : Nat → Int32} {c : Nat} (a : Sv D g) (hw : WF g) (hc : c < 10) (h6 : g (ix c 6) = 1) (h9 : g (ix c 9) = g 0) : ∃ S, EV g c = some (g (ix c 7), S) := by
  obtain ⟨-, -, -, q, -⟩ := a.2 c hc h6
  rw [h9] at q
  obtain ⟨m, S, v⟩ := q
  rw [a.ev hw hc] at v
  exact ⟨S, EV_some v⟩
