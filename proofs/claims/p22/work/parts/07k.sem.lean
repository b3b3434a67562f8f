/-! What remembered answers are worth: what a row tells of the revisions before. -/
abbrev Dh : Type := Int → Nat → Int32
/-- a is the answer of c, worked out afresh by the definitions of a row -/
def EvA (F : Nat → Int32) (c : Nat) (a : Int32) : Prop := ∃ m S, ev m F c = some (a, S)
def SameD (F g : Nat → Int32) (c : Nat) : Prop := ∀ j, j < 5 → F (ix c j) = g (ix c j)
theorem EvA.uniq {F : Nat → Int32} {c : Nat} {a b : Int32} (h : EvA F c a) (h2 : EvA F c b) : a = b := by
  obtain ⟨m, S, e⟩ := h
  obtain ⟨m2, S2, e2⟩ := h2
  exact congrArg Prod.fst (ev_eq e e2)
theorem EvA.val {F g : Nat → Int32} {c : Nat} (d : SameD F g c) (h0 : g (ix c 0) = 0) : EvA F c (g (ix c 1)) :=
  ⟨1, 0, by rw [ev_s, if_pos (by rw [d 0 (by decide)]; exact h0), d 1 (by decide)]⟩
theorem EvA.one {F g : Nat → Int32} {c : Nat} {x : Int32} (d : SameD F g c) (h0 : ¬ g (ix c 0) = 0) (hx : EvA F (cN (g (ix c 2))) x) (hs : g (ix c 0) = 5 ∧ x = 2000000000) : EvA F c 2000000000 := by
  obtain ⟨m, S, e⟩ := hx
  refine ⟨m + 1, S ||| S ||| bitI (g (ix c 2)) ||| bitI (g (ix c 2)), ?_⟩
  rw [ev_s, if_neg (by rw [d 0 (by decide)]; exact h0), d 2 (by decide), e]
  dsimp only
  rw [if_pos (by rw [d 0 (by decide)]; exact hs)]
theorem EvA.two {F g : Nat → Int32} {c : Nat} {x y : Int32} (d : SameD F g c) (h0 : ¬ g (ix c 0) = 0) (hx : EvA F (cN (g (ix c 2))) x) (hs : ¬ (g (ix c 0) = 5 ∧ x = 2000000000)) (hy : EvA F (cN (A_nxt g c x)) y) : EvA F c (A_made (g (ix c 0)) x y) := by
  obtain ⟨m1, S1, e1⟩ := hx
  obtain ⟨m2, S2, e2⟩ := hy
  have e1' := ev_le e1 (Nat.le_max_left m1 m2)
  have e2' := ev_le e2 (Nat.le_max_right m1 m2)
  refine ⟨max m1 m2 + 1, S1 ||| S2 ||| bitI (g (ix c 2)) ||| bitI (A_nxt g c x), ?_⟩
  rw [ev_s, if_neg (by rw [d 0 (by decide)]; exact h0), d 2 (by decide), e1']
  dsimp only
  rw [if_neg (by rw [d 0 (by decide)]; exact hs), nxt_f d, e2']
  dsimp only
  rw [d 0 (by decide)]
/-- of a cell that is used: if it changed no later than r, its answer is that of r -/
def Bn (D : Dh) (g : Nat → Int32) (u : Nat) (r : Int) : Prop := g (ix u 6) = 1 → (g (ix u 8)).toInt ≤ r → EvA (D r) u (g (ix u 7))
/-- of a remembered answer that was seen last at r -/
def Sem (D : Dh) (g : Nat → Int32) (c : Nat) (r : Int) : Prop := EvA (D r) c (g (ix c 7)) ∧ Bn D g (cN (g (ix c 2))) r ∧ ∃ x, EvA (D r) (cN (g (ix c 2))) x ∧
  ((g (ix c 10) = 1 ∧ g (ix c 0) = 5 ∧ x = 2000000000) ∨ (g (ix c 10) = 2 ∧ ¬ (g (ix c 0) = 5 ∧ x = 2000000000) ∧ g (ix c 12) = A_nxt g c x ∧ Bn D g (cN (g (ix c 12))) r))
def Rm (D : Dh) (g : Nat → Int32) (c : Nat) : Prop := g (ix c 6) = 1 → (g (ix c 5)).toInt ≤ (g (ix c 8)).toInt ∧ (g (ix c 8)).toInt ≤ (g (ix c 9)).toInt ∧ (g (ix c 9)).toInt ≤ (g 0).toInt ∧ Sem D g c (g (ix c 9)).toInt
def Dc (D : Dh) (g : Nat → Int32) (i : Nat) : Prop := (g (ix i 5)).toInt ≤ (g 0).toInt ∧ ∀ r, (g (ix i 5)).toInt ≤ r → r ≤ (g 0).toInt → SameD (D r) g i
/-- D r: the definitions at the revision r -/
def Sv (D : Dh) (g : Nat → Int32) : Prop := (∀ i, i < 10 → Dc D g i) ∧ ∀ i, i < 10 → Rm D g i
theorem Bn.eq {D : Dh} {g h : Nat → Int32} {u : Nat} {r : Int} (e : ∀ j, j < 13 → h (ix u j) = g (ix u j)) (b : Bn D g u r) : Bn D h u r := fun h6 h8 => by
  rw [e 6 (by decide)] at h6
  rw [e 8 (by decide)] at h8
  rw [e 7 (by decide)]
  exact b h6 h8
theorem Sem.frame {D : Dh} {g h : Nat → Int32} {i : Nat} {r : Int} (s : Sem D g i r) (hu : ∀ u, Bn D g u r → Bn D h u r) (e : ∀ j, j < 13 → j ≠ 9 → h (ix i j) = g (ix i j)) : Sem D h i r := by
  obtain ⟨s1, s2, x, s3, s4⟩ := s
  have en : A_nxt h i x = A_nxt g i x := nxt_f (fun j hj => e j (by omega) (by omega))
  unfold Sem
  rw [e 7 (by decide) (by decide), e 2 (by decide) (by decide), e 10 (by decide) (by decide), e 0 (by decide) (by decide), e 12 (by decide) (by decide)]
  refine ⟨s1, hu _ s2, x, s3, ?_⟩
  rw [en]
  rcases s4 with q | ⟨q1, q2, q3, q4⟩
  · exact Or.inl q
  · exact Or.inr ⟨q1, q2, q3, hu _ q4⟩
theorem OpC.bn {D : Dh} {g h : Nat → Int32} {c : Nat} {r : Int} (o : OpC g h c) (hb : Bn D g c r → Bn D h c r) : ∀ u, Bn D g u r → Bn D h u r := fun u b => by
  by_cases e : u = c
  · subst e; exact hb b
  · exact b.eq (fun j hj => o.2.2.2.1 u j e (by omega))
theorem Sv.step {D : Dh} {g h : Nat → Int32} {c : Nat} (a : Sv D g) (o : OpC g h c) (hc : Rm D h c) (hb : ∀ r, r ≤ (g 0).toInt → Bn D g c r → Bn D h c r) : Sv D h := by
  have e5 : ∀ i j, j < 6 → h (ix i j) = g (ix i j) := fun i j hj => by
    by_cases e : i = c
    · subst e; exact o.2.2.2.2 j hj
    · exact o.2.2.2.1 i j e (by omega)
  refine ⟨fun i hi => ?_, fun i hi => ?_⟩
  · obtain ⟨p, q⟩ := a.1 i hi
    unfold Dc
    rw [e5 i 5 (by decide), o.1]
    exact ⟨p, fun r h1 h2 j hj => by rw [e5 i j (by omega)]; exact q r h1 h2 j hj⟩
  · by_cases e : i = c
    · subst e; exact hc
    · have es : ∀ j, j < 13 → h (ix i j) = g (ix i j) := fun j hj => o.2.2.2.1 i j e (by omega)
      intro h6
      rw [es 6 (by decide)] at h6
      obtain ⟨r1, r2, r3, r4⟩ := a.2 i hi h6
      rw [es 5 (by decide), es 8 (by decide), es 9 (by decide), o.1]
      exact ⟨r1, r2, r3, r4.frame (o.bn (hb _ r3)) (fun j hj _ => es j hj)⟩
theorem unch {D : Dh} {g : Nat → Int32} {u : Nat} {s : Int} (a : Sv D g) (hu : u < 10) (hf : Fr g u) (hs : s ≤ (g 0).toInt) (hc : (A_chg g u).toInt ≤ s) (hb : Bn D g u s) : EvA (D s) u (A_ans g u) := by
  unfold A_chg at hc
  unfold A_ans
  by_cases h0 : g (ix u 0) = 0
  · rw [if_pos h0] at hc ⊢
    exact EvA.val ((a.1 u hu).2 s hc hs) h0
  · rw [if_neg h0] at hc ⊢
    rcases hf with q | q
    · exact absurd q h0
    · exact hb q.1 hc
theorem has_f {g : Nat → Int32} {u : Nat} (hw : WF g) (hu : u < 10) (h6 : g (ix u 6) = 1) : ¬ g (ix u 0) = 0 := fun z => by
  have q := ((hw.1 u hu).2.1 z).2.2.2.2.2.2
  rw [q] at h6
  exact absurd h6 (by decide)
theorem Bn.of {D : Dh} {g : Nat → Int32} {u : Nat} {r : Int} (hw : WF g) (hu : u < 10) (e : EvA (D r) u (A_ans g u)) : Bn D g u r := fun h6 _ => by
  unfold A_ans at e
  rw [if_neg (has_f hw hu h6)] at e
  exact e
/-- a cell that is seen now -/
theorem Sv.seen {D : Dh} {g h : Nat → Int32} {c : Nat} (a : Sv D g) (hw : WF g) (o : OpC g h c) (hc : c < 10) (h8 : (g (ix c 5)).toInt ≤ (h (ix c 8)).toInt ∧ (h (ix c 8)).toInt ≤ (g 0).toInt) (h9 : h (ix c 9) = g 0) (he : EvA (D (g 0).toInt) c (h (ix c 7)))
    (hx : cN (g (ix c 2)) < 10 ∧ cN (g (ix c 2)) ≠ c ∧ EvA (D (g 0).toInt) (cN (g (ix c 2))) (A_ans g (cN (g (ix c 2)))))
    (hm : (h (ix c 10) = 1 ∧ g (ix c 0) = 5 ∧ A_ans g (cN (g (ix c 2))) = 2000000000) ∨ (h (ix c 10) = 2 ∧ ¬ (g (ix c 0) = 5 ∧ A_ans g (cN (g (ix c 2))) = 2000000000) ∧ h (ix c 12) = A_nxt g c (A_ans g (cN (g (ix c 2)))) ∧ cN (A_nxt g c (A_ans g (cN (g (ix c 2))))) < 10 ∧ cN (A_nxt g c (A_ans g (cN (g (ix c 2))))) ≠ c ∧ EvA (D (g 0).toInt) (cN (A_nxt g c (A_ans g (cN (g (ix c 2)))))) (A_ans g (cN (A_nxt g c (A_ans g (cN (g (ix c 2)))))))))
    (hb : ∀ r, r ≤ (g 0).toInt → Bn D g c r → Bn D h c r) : Sv D h := by
  refine a.step o (fun _ => ?_) hb
  have e5 : ∀ j, j < 6 → h (ix c j) = g (ix c j) := o.2.2.2.2
  have b1 : Bn D h (cN (g (ix c 2))) (g 0).toInt := (Bn.of hw hx.1 hx.2.2).eq (fun j hj => o.2.2.2.1 _ j hx.2.1 (by omega))
  rw [e5 5 (by decide), h9, o.1]
  refine ⟨h8.1, h8.2, Int.le_refl _, ?_⟩
  unfold Sem
  rw [e5 2 (by decide), e5 0 (by decide), show A_nxt h c = A_nxt g c from funext (fun x => nxt_f (fun j hj => e5 j (by omega)))]
  refine ⟨he, b1, _, hx.2.2, ?_⟩
  rcases hm with q | ⟨q1, q2, q3, q4, q5, q6⟩
  · exact Or.inl q
  · refine Or.inr ⟨q1, q2, q3, ?_⟩
    rw [q3]
    exact (Bn.of hw q4 q6).eq (fun j hj => o.2.2.2.1 _ j q5 (by omega))
/-- a cell that was worked out now -/
theorem Sv.ended {D : Dh} {g : Nat → Int32} {c : Nat} {its many o2 : Int32} (a : Sv D g) (hw : WF g) (hc : c < 10) (he : EvA (D (g 0).toInt) c its)
    (hx : cN (g (ix c 2)) < 10 ∧ cN (g (ix c 2)) ≠ c ∧ EvA (D (g 0).toInt) (cN (g (ix c 2))) (A_ans g (cN (g (ix c 2)))))
    (hm : (many = 1 ∧ g (ix c 0) = 5 ∧ A_ans g (cN (g (ix c 2))) = 2000000000) ∨ (many = 2 ∧ ¬ (g (ix c 0) = 5 ∧ A_ans g (cN (g (ix c 2))) = 2000000000) ∧ o2 = A_nxt g c (A_ans g (cN (g (ix c 2)))) ∧ cN (A_nxt g c (A_ans g (cN (g (ix c 2))))) < 10 ∧ cN (A_nxt g c (A_ans g (cN (g (ix c 2))))) ≠ c ∧ EvA (D (g 0).toInt) (cN (A_nxt g c (A_ans g (cN (g (ix c 2)))))) (A_ans g (cN (A_nxt g c (A_ans g (cN (g (ix c 2))))))))) : Sv D (A_end g c its many o2) := by
  unfold A_end
  by_cases q : g (ix c 6) = 1 ∧ g (ix c 7) = its
  · rw [if_pos q]
    obtain ⟨r1, r2, r3, -⟩ := a.2 c hc q.1
    refine a.seen hw end1_op hc (by rw [end1_8]; omega) end1_9 (by rw [end1_7]; exact he) hx (by rw [end1_10, end1_12]; exact hm) (fun r hr b => ?_)
    intro _ h8
    rw [end1_8] at h8
    rw [end1_7, ← q.2]
    exact b q.1 h8
  · rw [if_neg q]
    refine a.seen hw end1_op hc (by rw [end1_8]; exact ⟨(a.1 c hc).1, Int.le_refl _⟩) end1_9 (by rw [end1_7]; exact he) hx (by rw [end1_10, end1_12]; exact hm) (fun r hr b => ?_)
    intro _ h8
    rw [end1_8] at h8
    rw [end1_7, show r = (g 0).toInt by omega]
    exact he
theorem Sv.take {D : Dh} {g : Nat → Int32} {c : Nat} (a : Sv D g) (hc : c < 10) (h6 : g (ix c 6) = 1 ∧ g (ix c 9) = g 0) : Sv D (A_take g c) ∧ EvA (D (g 0).toInt) c (g (ix c 7)) := by
  obtain ⟨r1, r2, r3, r4⟩ := a.2 c hc h6.1
  refine ⟨a.step take_op (fun _ => ?_) (fun r _ b => b.eq (fun j hj => take_f hj)), ?_⟩
  · rw [take_f (by decide), take_f (by decide), take_f (by decide), take_op.1]
    exact ⟨r1, r2, r3, r4.frame (take_op.bn (fun b => b.eq (fun j hj => take_f hj))) (fun j hj _ => take_f hj)⟩
  · have q := r4.1
    rw [h6.2] at q
    exact q
/-- an answer that is kept: its cells answer as they did when it was seen last -/
theorem Sv.kept {D : Dh} {g : Nat → Int32} {c : Nat} (a : Sv D g) (hw : WF g) (hc : c < 10) (h6 : g (ix c 6) = 1) (he : EvA (D (g 0).toInt) c (g (ix c 7)))
    (hx : cN (g (ix c 2)) < 10 ∧ cN (g (ix c 2)) ≠ c ∧ EvA (D (g 0).toInt) (cN (g (ix c 2))) (A_ans g (cN (g (ix c 2)))))
    (hm : (g (ix c 10) = 1 ∧ g (ix c 0) = 5 ∧ A_ans g (cN (g (ix c 2))) = 2000000000) ∨ (g (ix c 10) = 2 ∧ ¬ (g (ix c 0) = 5 ∧ A_ans g (cN (g (ix c 2))) = 2000000000) ∧ g (ix c 12) = A_nxt g c (A_ans g (cN (g (ix c 2)))) ∧ cN (A_nxt g c (A_ans g (cN (g (ix c 2))))) < 10 ∧ cN (A_nxt g c (A_ans g (cN (g (ix c 2))))) ≠ c ∧ EvA (D (g 0).toInt) (cN (A_nxt g c (A_ans g (cN (g (ix c 2)))))) (A_ans g (cN (A_nxt g c (A_ans g (cN (g (ix c 2))))))))) : Sv D (A_keep g c) := by
  obtain ⟨r1, r2, r3, -⟩ := a.2 c hc h6
  refine a.seen hw keep_op hc (by rw [keep_f (by decide) (by decide)]; omega) keep_9 (by rw [keep_f (by decide) (by decide)]; exact he) hx (by rw [keep_f (by decide) (by decide), keep_f (by decide) (by decide)]; exact hm) (fun r hr b => ?_)
  intro z6 z8
  rw [keep_f (by decide) (by decide)] at z6 z8
  rw [keep_f (by decide) (by decide)]
  exact b z6 z8
