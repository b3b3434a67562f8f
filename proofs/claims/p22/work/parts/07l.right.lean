/-! Looks are right: what a look answers is what is worked out afresh. -/
/-- a look that ends, from a row that is right -/
def LR (D : Dh) (n : Nat) : Prop := ∀ (O : List Nat) (g : Nat → Int32) (c : Nat) (h : Nat → Int32), c < 10 → Pre O g → Sv D g → A_look n O g c = some h → Sv D h ∧ EvA (D (g 0).toInt) c (A_ans h c)
theorem fr_ne {g : Nat → Int32} {O : List Nat} {c u : Nat} (hP : Pre (c :: O) g) (hf : Fr g u) : u ≠ c := fun e => by
  subst e
  exact hP.2 u List.mem_cons_self hf
theorem Pre.opn {g : Nat → Int32} {O : List Nat} {c : Nat} (hP : Pre O g) (h0 : ¬ g (ix c 0) = 0) (h6 : ¬ (g (ix c 6) = 1 ∧ g (ix c 9) = g 0)) : Pre (c :: O) g := ⟨hP.1, fun o ho => by
  rcases List.mem_cons.mp ho with rfl | ho
  · exact fun q => q.elim h0 h6
  · exact hP.2 o ho⟩
theorem ans_n0 {h : Nat → Int32} {c : Nat} (h0 : ¬ h (ix c 0) = 0) : A_ans h c = h (ix c 7) := if_neg h0
theorem Sv.d {D : Dh} {g : Nat → Int32} {c : Nat} (a : Sv D g) (hc : c < 10) : SameD (D (g 0).toInt) g c := (a.1 c hc).2 _ (a.1 c hc).1 (Int.le_refl _)
theorem A_work_right {D : Dh} {n : Nat} (ih : LR D n) {O : List Nat} {g h : Nat → Int32} {c : Nat} (hc : c < 10) (h0 : ¬ g (ix c 0) = 0) (hP : Pre (c :: O) g) (a : Sv D g) (e : A_work n O g c = some h) : Sv D h ∧ EvA (D (g 0).toInt) c (A_ans h c) := by
  unfold A_work at e
  have hx := cN_ok ((hP.1.1 c hc).2.2.1 h0).2.1
  cases e1 : A_look n (c :: O) g (cN (g (ix c 2))) with
  | none => rw [e1] at e; cases e
  | some f1 =>
    rw [e1] at e
    obtain ⟨a1, v1⟩ := ih _ _ _ _ hx.1 hP a e1
    obtain ⟨g1, fr1⟩ := A_look_good n _ _ _ _ hx.1 hP e1
    have P1 := hP.next g1
    have s1 : ∀ j, j < 15 → f1 (ix c j) = g (ix c j) := g1.2.2.2.2.1 c List.mem_cons_self
    have z1 : f1 0 = g 0 := g1.1
    have h01 : ¬ f1 (ix c 0) = 0 := by rw [s1 0 (by decide)]; exact h0
    have n1 := fr_ne P1 fr1
    rw [← z1] at v1 ⊢
    rw [← s1 2 (by decide)] at e v1 fr1 n1 hx
    dsimp only at e
    by_cases hs : f1 (ix c 0) = 5 ∧ A_ans f1 (cN (f1 (ix c 2))) = 2000000000
    · rw [if_pos hs] at e
      cases e
      have he : EvA (D (f1 0).toInt) c 2000000000 := EvA.one (a1.d hc) h01 v1 hs
      refine ⟨a1.ended P1.1 hc he ⟨hx.1, n1, v1⟩ (Or.inl ⟨rfl, hs⟩), ?_⟩
      rw [ans_n0 (by rw [end_op.2.2.2.2 0 (by decide)]; exact h01), end_7]
      exact he
    · rw [if_neg hs] at e
      have hy := cN_ok (nxt_ok (x := A_ans f1 (cN (f1 (ix c 2)))) P1.1 hc h01)
      cases e2 : A_look n (c :: O) f1 (cN (A_nxt f1 c (A_ans f1 (cN (f1 (ix c 2)))))) with
      | none => rw [e2] at e; cases e
      | some f2 =>
        rw [e2] at e
        cases e
        obtain ⟨a2, v2⟩ := ih _ _ _ _ hy.1 P1 a1 e2
        obtain ⟨g2, fr2⟩ := A_look_good n _ _ _ _ hy.1 P1 e2
        have P2 := P1.next g2
        have s2 : ∀ j, j < 15 → f2 (ix c j) = f1 (ix c j) := g2.2.2.2.2.1 c List.mem_cons_self
        have z2 : f2 0 = f1 0 := g2.1
        have exx := (g2.2.2.2.2.2.1 _ hx.1 fr1).2.1
        have en : A_nxt f2 c = A_nxt f1 c := funext (fun x => nxt_f (fun j hj => s2 j (by omega)))
        have n2 := fr_ne P2 fr2
        rw [← z2] at v1 v2 ⊢
        have h02 : ¬ f2 (ix c 0) = 0 := by rw [s2 0 (by decide)]; exact h01
        have he : EvA (D (f2 0).toInt) c (A_made (f2 (ix c 0)) (A_ans f2 (cN (f1 (ix c 2)))) (A_ans f2 (cN (A_nxt f1 c (A_ans f1 (cN (f1 (ix c 2)))))))) := by
          refine EvA.two (a2.d hc) h02 ?_ ?_ ?_
          · rw [s2 2 (by decide), exx]; exact v1
          · rw [s2 0 (by decide), exx]; exact hs
          · rw [en, exx]; exact v2
        refine ⟨a2.ended P2.1 hc he ?_ (Or.inr ⟨rfl, ?_⟩), ?_⟩
        · rw [s2 2 (by decide), exx]; exact ⟨hx.1, n1, v1⟩
        · rw [s2 2 (by decide), s2 0 (by decide), exx, en]
          exact ⟨hs, rfl, hy.1, n2, v2⟩
        · rw [ans_n0 (by rw [end_op.2.2.2.2 0 (by decide)]; exact h02), end_7]
          exact he
theorem le_of_nlt {a b : Int32} (h : ¬ a < b) : b.toInt ≤ a.toInt := Int32.le_iff_toInt_le.mp (Int32.not_lt.mp h)
theorem A_chk_right {D : Dh} {n : Nat} (ih : LR D n) {O : List Nat} {g h : Nat → Int32} {c : Nat} (hc : c < 10) (h0 : ¬ g (ix c 0) = 0) (h6 : g (ix c 6) = 1) (hP : Pre (c :: O) g) (a : Sv D g) (e : A_chk n O g c = some h) : Sv D h ∧ EvA (D (g 0).toInt) c (A_ans h c) := by
  unfold A_chk at e
  have hx := cN_ok ((hP.1.1 c hc).2.2.1 h0).2.1
  rw [((hP.1.1 c hc).2.2.2.2 h6).1] at e
  cases e1 : A_look n (c :: O) g (cN (g (ix c 2))) with
  | none => rw [e1] at e; cases e
  | some f1 =>
    rw [e1] at e
    obtain ⟨a1, v1⟩ := ih _ _ _ _ hx.1 hP a e1
    obtain ⟨g1, fr1⟩ := A_look_good n _ _ _ _ hx.1 hP e1
    have P1 := hP.next g1
    have s1 : ∀ j, j < 15 → f1 (ix c j) = g (ix c j) := g1.2.2.2.2.1 c List.mem_cons_self
    have z1 : f1 0 = g 0 := g1.1
    have h01 : ¬ f1 (ix c 0) = 0 := by rw [s1 0 (by decide)]; exact h0
    have h61 : f1 (ix c 6) = 1 := by rw [s1 6 (by decide)]; exact h6
    have n1 := fr_ne P1 fr1
    rw [← z1] at v1 ⊢
    rw [← s1 2 (by decide)] at e v1 fr1 n1 hx
    dsimp only at e
    by_cases hl : f1 (ix c 9) < A_chg f1 (cN (f1 (ix c 2)))
    · rw [if_pos hl] at e
      exact A_work_right ih hc h01 P1 a1 e
    · rw [if_neg hl] at e
      obtain ⟨q1, q2, q3, q4, q5, x, q6, q7⟩ := a1.2 c hc h61
      have w1 := unch a1 hx.1 fr1 q3 (le_of_nlt hl) q5
      have ex := q6.uniq w1
      subst ex
      have dS : SameD (D (f1 (ix c 9)).toInt) f1 c := (a1.1 c hc).2 _ (by omega) q3
      by_cases hm : f1 (ix c 10) = 1
      · rw [if_pos hm] at e
        cases e
        have hs : f1 (ix c 0) = 5 ∧ A_ans f1 (cN (f1 (ix c 2))) = 2000000000 := by
          rcases q7 with q | q
          · exact q.2
          · rw [hm] at q; exact absurd q.1 (by decide)
        have ea : f1 (ix c 7) = 2000000000 := q4.uniq (EvA.one dS h01 q6 hs)
        have he : EvA (D (f1 0).toInt) c (f1 (ix c 7)) := by rw [ea]; exact EvA.one (a1.d hc) h01 v1 hs
        refine ⟨a1.kept P1.1 hc h61 he ⟨hx.1, n1, v1⟩ (Or.inl ⟨hm, hs⟩), ?_⟩
        rw [ans_n0 (by rw [keep_op.2.2.2.2 0 (by decide)]; exact h01), keep_f (by decide) (by decide)]
        exact he
      · rw [if_neg hm] at e
        obtain ⟨hm2, hs, h12, -⟩ := q7.resolve_left (fun q => hm q.1)
        rw [h12] at e
        have hy := cN_ok (nxt_ok (x := A_ans f1 (cN (f1 (ix c 2)))) P1.1 hc h01)
        cases e2 : A_look n (c :: O) f1 (cN (A_nxt f1 c (A_ans f1 (cN (f1 (ix c 2)))))) with
        | none => rw [e2] at e; cases e
        | some f2 =>
          rw [e2] at e
          obtain ⟨a2, v2⟩ := ih _ _ _ _ hy.1 P1 a1 e2
          obtain ⟨g2, fr2⟩ := A_look_good n _ _ _ _ hy.1 P1 e2
          have P2 := P1.next g2
          have s2 : ∀ j, j < 15 → f2 (ix c j) = f1 (ix c j) := g2.2.2.2.2.1 c List.mem_cons_self
          have z2 : f2 0 = f1 0 := g2.1
          have exx := (g2.2.2.2.2.2.1 _ hx.1 fr1).2.1
          have en : A_nxt f2 c = A_nxt f1 c := funext (fun x => nxt_f (fun j hj => s2 j (by omega)))
          have n2 := fr_ne P2 fr2
          rw [← z2] at v1 v2 ⊢
          have h02 : ¬ f2 (ix c 0) = 0 := by rw [s2 0 (by decide)]; exact h01
          have h62 : f2 (ix c 6) = 1 := by rw [s2 6 (by decide)]; exact h61
          dsimp only at e
          by_cases hl2 : f2 (ix c 9) < A_chg f2 (cN (A_nxt f1 c (A_ans f1 (cN (f1 (ix c 2))))))
          · rw [if_pos hl2] at e
            exact A_work_right ih hc h02 P2 a2 e
          · rw [if_neg hl2] at e
            cases e
            obtain ⟨p1, p2, p3, p4, p5, x2, p6, p7⟩ := a2.2 c hc h62
            rw [s2 2 (by decide)] at p5 p6
            have exs := p6.uniq (by rw [s2 9 (by decide)]; exact q6)
            subst exs
            obtain ⟨r1, r2, r3, r4⟩ := p7.resolve_left (fun q => by rw [s2 10 (by decide)] at q; exact hm q.1)
            rw [en] at r3
            rw [r3] at r4
            have w2 := unch a2 hy.1 fr2 p3 (le_of_nlt hl2) r4
            have dS2 : SameD (D (f2 (ix c 9)).toInt) f2 c := (a2.1 c hc).2 _ (by omega) p3
            have ea : f2 (ix c 7) = A_made (f2 (ix c 0)) (A_ans f1 (cN (f1 (ix c 2)))) (A_ans f2 (cN (A_nxt f1 c (A_ans f1 (cN (f1 (ix c 2))))))) := p4.uniq (EvA.two dS2 h02 (by rw [s2 2 (by decide)]; exact p6) r2 (by rw [en]; exact w2))
            have he : EvA (D (f2 0).toInt) c (f2 (ix c 7)) := by
              rw [ea]
              exact EvA.two (a2.d hc) h02 (by rw [s2 2 (by decide)]; exact v1) r2 (by rw [en]; exact v2)
            refine ⟨a2.kept P2.1 hc h62 he ?_ (Or.inr ?_), ?_⟩
            · rw [s2 2 (by decide), exx]; exact ⟨hx.1, n1, v1⟩
            · rw [s2 2 (by decide), exx, en]
              exact ⟨r1, r2, r3, hy.1, n2, v2⟩
            · rw [ans_n0 (by rw [keep_op.2.2.2.2 0 (by decide)]; exact h02), keep_f (by decide) (by decide)]
              exact he
theorem A_look_right {D : Dh} : ∀ n, LR D n := by
  intro n
  induction n with
  | zero => intro O g c h _ _ _ e; cases e
  | succ n ih =>
    intro O g c h hc hP a e
    rw [A_look_s] at e
    by_cases h0 : g (ix c 0) = 0
    · rw [if_pos h0] at e; cases e
      refine ⟨a, ?_⟩
      unfold A_ans
      rw [if_pos h0]
      exact EvA.val (a.d hc) h0
    · rw [if_neg h0] at e
      by_cases h6 : g (ix c 6) = 1 ∧ g (ix c 9) = g 0
      · rw [if_pos h6] at e; cases e
        obtain ⟨b, v⟩ := a.take hc h6
        refine ⟨b, ?_⟩
        rw [ans_n0 (by rw [take_f (by decide)]; exact h0), take_f (by decide)]
        exact v
      · rw [if_neg h6] at e
        by_cases hO : c ∈ O
        · rw [if_pos hO] at e; cases e
        · rw [if_neg hO] at e
          have hP' := hP.opn h0 h6
          by_cases h1 : g (ix c 6) = 1
          · rw [if_pos h1] at e
            exact A_chk_right ih hc h0 h1 hP' a e
          · rw [if_neg h1] at e
            exact A_work_right ih hc h0 hP' a e
