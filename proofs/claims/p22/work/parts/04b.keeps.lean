/-! What a look keeps, proved. -/
theorem wfCell_same {f g : Nat → Int32} {i : Nat} (h : ∀ j, j < 13 → j ≠ 9 → g (ix i j) = f (ix i j)) (w : wfCell f i) : wfCell g i := by
  unfold wfCell at w ⊢
  rw [h 0 (by decide) (by decide), h 1 (by decide) (by decide), h 2 (by decide) (by decide), h 3 (by decide) (by decide), h 4 (by decide) (by decide), h 5 (by decide) (by decide), h 6 (by decide) (by decide), h 7 (by decide) (by decide), h 8 (by decide) (by decide), h 10 (by decide) (by decide), h 11 (by decide) (by decide), h 12 (by decide) (by decide)]
  exact w
theorem OpC.fr {f g : Nat → Int32} {c i : Nat} (h : OpC f g c) (hi : i ≠ c) (hf : Fr f i) : Fr g i ∧ A_ans g i = A_ans f i ∧ A_chg g i = A_chg f i := by
  obtain ⟨h0, -, -, ho, -⟩ := h
  unfold Fr A_ans A_chg at *
  rw [ho i 0 hi (by decide), ho i 6 hi (by decide), ho i 9 hi (by decide), h0, ho i 1 hi (by decide), ho i 7 hi (by decide), ho i 5 hi (by decide), ho i 8 hi (by decide)]
  exact ⟨hf, rfl, rfl⟩
theorem OpC.good {f g : Nat → Int32} {c : Nat} {O : List Nat} (h : OpC f g c) (hc : c ∉ O) (hfr : Fr f c → Fr g c ∧ A_ans g c = A_ans f c ∧ A_chg g c = A_chg f c) (hw : WF f → c < 10 → wfCell g c) : Good f g O := by
  refine ⟨h.1, h.2.1, h.2.2.1, fun i hi j hj => ?_, fun o ho j hj => ?_, fun i hi hf => ?_, fun w => ⟨fun i hi => ?_, ?_, ?_⟩⟩
  · by_cases e : i = c
    · subst e; exact h.2.2.2.2 j hj
    · exact h.2.2.2.1 i j e (by omega)
  · exact h.2.2.2.1 o j (fun e => hc (e ▸ ho)) hj
  · by_cases e : i = c
    · subst e; exact hfr hf
    · exact h.fr e hf
  · by_cases e : i = c
    · subst e; exact hw w hi
    · exact wfCell_same (fun j hj _ => h.2.2.2.1 i j e (by omega)) (w.1 i hi)
  · rw [h.1]; exact w.2.1
  · rw [h.2.2.1]; exact w.2.2
theorem take_good {f : Nat → Int32} {c : Nat} {O : List Nat} (hc : c ∉ O) (h6 : f (ix c 6) = 1 ∧ f (ix c 9) = f 0) : Good f (A_take f c) O ∧ Fr (A_take f c) c := by
  have e0 : A_take f c 0 = f 0 := take_op.1
  have fr : Fr (A_take f c) c := Or.inr (by rw [take_f (by decide), take_f (by decide), e0]; exact h6)
  refine ⟨take_op.good hc (fun _ => ⟨fr, ?_, ?_⟩) (fun w hi => wfCell_same (fun j hj _ => take_f hj) (w.1 c hi)), fr⟩
  · unfold A_ans; rw [take_f (by decide), take_f (by decide), take_f (by decide)]
  · unfold A_chg; rw [take_f (by decide), take_f (by decide), take_f (by decide)]
theorem keep_good {f : Nat → Int32} {c : Nat} {O : List Nat} (hc : c ∉ O) (hn : ¬ Fr f c) (h6 : f (ix c 6) = 1) : Good f (A_keep f c) O ∧ Fr (A_keep f c) c := by
  have e0 : A_keep f c 0 = f 0 := keep_op.1
  refine ⟨keep_op.good hc (fun q => absurd q hn) (fun w hi => wfCell_same (fun j hj h9 => keep_f hj h9) (w.1 c hi)), Or.inr ?_⟩
  rw [keep_f (by decide) (by decide), keep_9, e0]
  exact ⟨h6, rfl⟩
theorem end1_good {f : Nat → Int32} {c : Nat} {O : List Nat} {ds ch its many o2 : Int32} (hc : c ∉ O) (hn : ¬ Fr f c) (hi : WF f → okA its) (hch : WF f → 0 ≤ ch.toInt) (hm : many = 1 ∨ (many = 2 ∧ okC o2)) : Good f (A_end1 f c ds ch its many o2) O ∧ Fr (A_end1 f c ds ch its many o2) c := by
  have e0 : A_end1 f c ds ch its many o2 0 = f 0 := end1_op.1
  have h5 := (end1_op (f := f) (c := c) (ds := ds) (ch := ch) (its := its) (many := many) (o2 := o2)).2.2.2.2
  refine ⟨end1_op.good hc (fun q => absurd q hn) (fun w hi' => ?_), Or.inr ?_⟩
  · have w0 := w.1 c hi'
    unfold wfCell at w0 ⊢
    rw [h5 0 (by decide), h5 1 (by decide), h5 2 (by decide), h5 3 (by decide), h5 4 (by decide), h5 5 (by decide), end1_6, end1_7, end1_8, end1_10, end1_11, end1_12]
    exact ⟨w0.1, fun z => absurd (Or.inl z) hn, w0.2.2.1, Or.inr rfl, fun _ => ⟨rfl, hm, hi w, hch w⟩⟩
  · rw [end1_6, end1_9, e0]
    exact ⟨rfl, rfl⟩
theorem end_good {f : Nat → Int32} {c : Nat} {O : List Nat} {its many o2 : Int32} (hc : c ∉ O) (hc10 : c < 10) (hn : ¬ Fr f c) (hi : WF f → okA its) (hm : many = 1 ∨ (many = 2 ∧ okC o2)) : Good f (A_end f c its many o2) O ∧ Fr (A_end f c its many o2) c := by
  unfold A_end
  split
  · rename_i h
    exact end1_good hc hn hi (fun w => ((w.1 c hc10).2.2.2.2 h.1).2.2.2) hm
  · exact end1_good hc hn hi (fun w => w.2.1) hm
theorem bnd_ok {x : Int64} : okA (bnd x) := by
  unfold bnd
  split
  · exact Or.inl rfl
  · rename_i h
    refine Or.inr ?_
    have h1 : ¬ x.toInt < -1000000000 := fun z => h (Or.inl (Int64.lt_iff_toInt_lt.mpr z))
    have h2 : ¬ 1000000000 < x.toInt := fun z => h (Or.inr (Int64.lt_iff_toInt_lt.mpr z))
    have e : x.toInt32.toInt = x.toInt := by
      rw [Int64.toInt_toInt32]
      exact Int.bmod_eq_of_le (by omega) (by omega)
    rw [e]
    omega
theorem made_ok {a x y : Int32} (hx : okA x) (hy : okA y) : okA (A_made a x y) := by
  unfold A_made
  split
  · exact Or.inl rfl
  · split
    · exact bnd_ok
    · split
      · exact bnd_ok
      · split
        · exact bnd_ok
        · split
          · split
            · exact hx
            · exact hy
          · exact hy
theorem ans_ok {f : Nat → Int32} {i : Nat} (w : WF f) (hi : i < 10) (h : Fr f i) : okA (A_ans f i) := by
  unfold A_ans
  split
  · rename_i h0
    have := (w.1 i hi).2.1 h0
    exact Or.inr (by omega)
  · rename_i h0
    exact ((w.1 i hi).2.2.2.2 (h.elim (fun z => absurd z h0) (fun z => z.1))).2.2.1
theorem chg_ok {f : Nat → Int32} {i : Nat} (w : WF f) (hi : i < 10) (h : Fr f i) : 0 ≤ (A_chg f i).toInt := by
  unfold A_chg
  split
  · rename_i h0
    exact ((w.1 i hi).2.1 h0).2.2.2.2.2.1
  · rename_i h0
    exact ((w.1 i hi).2.2.2.2 (h.elim (fun z => absurd z h0) (fun z => z.1))).2.2.2
theorem nxt_ok {f : Nat → Int32} {c : Nat} {x : Int32} (w : WF f) (hc : c < 10) (h0 : ¬ f (ix c 0) = 0) : okC (A_nxt f c x) := by
  have := (w.1 c hc).2.2.1 h0
  unfold A_nxt
  split
  · exact this.2.2.2.1
  · exact this.2.2.1
/-- what is asked of a look -/
def Pre (O : List Nat) (f : Nat → Int32) : Prop := WF f ∧ ∀ o, o ∈ O → ¬ Fr f o
theorem Pre.next {f g : Nat → Int32} {O : List Nat} (h : Pre O f) (a : Good f g O) : Pre O g := ⟨a.2.2.2.2.2.2 h.1, fun o ho => a.nfr ho (h.2 o ho)⟩
def LG (n : Nat) : Prop := ∀ (O : List Nat) (f : Nat → Int32) (c : Nat) (g : Nat → Int32), c < 10 → Pre O f → A_look n O f c = some g → Good f g O ∧ Fr g c
theorem A_work_good {n : Nat} (ih : LG n) {O : List Nat} {f g : Nat → Int32} {c : Nat} (hc : c < 10) (hO : c ∉ O) (h0 : ¬ f (ix c 0) = 0) (hP : Pre (c :: O) f) (h : A_work n O f c = some g) : Good f g O ∧ Fr g c := by
  unfold A_work at h
  have hx := cN_ok ((hP.1.1 c hc).2.2.1 h0).2.1
  cases e1 : A_look n (c :: O) f (cN (f (ix c 2))) with
  | none => rw [e1] at h; cases h
  | some f1 =>
    rw [e1] at h
    obtain ⟨g1, fr1⟩ := ih _ _ _ _ hx.1 hP e1
    have P1 := hP.next g1
    have hn1 : ¬ Fr f1 c := P1.2 c (List.mem_cons_self)
    have s1 : ∀ j, j < 6 → f1 (ix c j) = f (ix c j) := g1.2.2.2.1 c hc
    have h01 : ¬ f1 (ix c 0) = 0 := by rw [s1 0 (by decide)]; exact h0
    dsimp only at h
    split at h
    · cases h
      obtain ⟨a, b⟩ := end_good (f := f1) (its := 2000000000) (many := 1) (o2 := 0) hO hc hn1 (fun _ => Or.inl rfl) (Or.inl rfl)
      exact ⟨g1.tail.tr a, b⟩
    · have hy := nxt_ok (x := A_ans f1 (cN (f (ix c 2)))) P1.1 hc h01
      have hy2 := cN_ok hy
      cases e2 : A_look n (c :: O) f1 (cN (A_nxt f1 c (A_ans f1 (cN (f (ix c 2)))))) with
      | none => rw [e2] at h; cases h
      | some f2 =>
        rw [e2] at h
        cases h
        obtain ⟨g2, fr2⟩ := ih _ _ _ _ hy2.1 P1 e2
        have P2 := P1.next g2
        have hn2 : ¬ Fr f2 c := P2.2 c (List.mem_cons_self)
        obtain ⟨a, b⟩ := end_good (f := f2) (its := A_made (f2 (ix c 0)) (A_ans f2 (cN (f (ix c 2)))) (A_ans f2 (cN (A_nxt f1 c (A_ans f1 (cN (f (ix c 2)))))))) (many := 2) (o2 := A_nxt f1 c (A_ans f1 (cN (f (ix c 2))))) hO hc hn2
          (fun w => made_ok (ans_ok w hx.1 (g2.2.2.2.2.2.1 _ hx.1 fr1).1) (ans_ok w hy2.1 fr2)) (Or.inr ⟨rfl, hy⟩)
        exact ⟨(g1.tail.tr g2.tail).tr a, b⟩
theorem A_chk_good {n : Nat} (ih : LG n) {O : List Nat} {f g : Nat → Int32} {c : Nat} (hc : c < 10) (hO : c ∉ O) (h0 : ¬ f (ix c 0) = 0) (h6 : f (ix c 6) = 1) (hP : Pre (c :: O) f) (h : A_chk n O f c = some g) : Good f g O ∧ Fr g c := by
  unfold A_chk at h
  have hw := (hP.1.1 c hc).2.2.2.2 h6
  have hx := cN_ok (show okC (f (ix c 11)) by rw [hw.1]; exact ((hP.1.1 c hc).2.2.1 h0).2.1)
  cases e1 : A_look n (c :: O) f (cN (f (ix c 11))) with
  | none => rw [e1] at h; cases h
  | some f1 =>
    rw [e1] at h
    obtain ⟨g1, fr1⟩ := ih _ _ _ _ hx.1 hP e1
    have P1 := hP.next g1
    have hn1 : ¬ Fr f1 c := P1.2 c (List.mem_cons_self)
    have s1 : ∀ j, j < 15 → f1 (ix c j) = f (ix c j) := g1.2.2.2.2.1 c (List.mem_cons_self)
    have h01 : ¬ f1 (ix c 0) = 0 := by rw [s1 0 (by decide)]; exact h0
    have h61 : f1 (ix c 6) = 1 := by rw [s1 6 (by decide)]; exact h6
    dsimp only at h
    split at h
    · obtain ⟨a, b⟩ := A_work_good ih hc hO h01 P1 h
      exact ⟨g1.tail.tr a, b⟩
    · split at h
      · cases h
        obtain ⟨a, b⟩ := keep_good hO hn1 h61
        exact ⟨g1.tail.tr a, b⟩
      · rename_i hm
        have hw1 := (P1.1.1 c hc).2.2.2.2 h61
        have hy2 := cN_ok (hw1.2.1.elim (fun z => absurd z hm) (fun z => z.2))
        cases e2 : A_look n (c :: O) f1 (cN (f1 (ix c 12))) with
        | none => rw [e2] at h; cases h
        | some f2 =>
          rw [e2] at h
          obtain ⟨g2, fr2⟩ := ih _ _ _ _ hy2.1 P1 e2
          have P2 := P1.next g2
          have hn2 : ¬ Fr f2 c := P2.2 c (List.mem_cons_self)
          have s2 : ∀ j, j < 15 → f2 (ix c j) = f1 (ix c j) := g2.2.2.2.2.1 c (List.mem_cons_self)
          dsimp only at h
          split at h
          · obtain ⟨a, b⟩ := A_work_good ih hc hO (by rw [s2 0 (by decide)]; exact h01) P2 h
            exact ⟨(g1.tail.tr g2.tail).tr a, b⟩
          · cases h
            obtain ⟨a, b⟩ := keep_good hO hn2 (by rw [s2 6 (by decide)]; exact h61)
            exact ⟨(g1.tail.tr g2.tail).tr a, b⟩
theorem A_look_good : ∀ n, LG n := by
  intro n
  induction n with
  | zero => intro O f c g _ _ h; cases h
  | succ n ih =>
    intro O f c g hc hP h
    rw [A_look_s] at h
    split at h
    · rename_i h0
      cases h
      exact ⟨Good.rf, Or.inl h0⟩
    · rename_i h0
      split at h
      · rename_i h6
        cases h
        exact take_good (fun q => hP.2 c q (Or.inr h6)) h6
      · rename_i hn6
        split at h
        · cases h
        · rename_i hO
          have hnf : ¬ Fr f c := fun q => q.elim h0 hn6
          have hP' : Pre (c :: O) f := ⟨hP.1, fun o ho => by
            rcases List.mem_cons.mp ho with rfl | ho
            · exact hnf
            · exact hP.2 o ho⟩
          split at h
          · rename_i h61
            exact A_chk_good ih hc hO h0 h61 hP' h
          · exact A_work_good ih hc hO h0 hP' h
