/-! Looks without remembered answers: what they come to. -/
theorem LKC_all {Y : rcY} {k : Nat} (hk : k < 6) : ∀ n, LKC Y k n := by
  intro n
  induction n with
  | zero =>
    intro la O f c v hc hR hB hP hO hn
    have := hO.len
    omega
  | succ n ih =>
    intro la O f c v hc hR hB hP hO hn
    exact c_look hk ih hc hR hB hP hO hn
theorem or_ab {L a b : Int32} (h : L ||| a ||| b = L) : L ||| a = L := by
  have e : (L ||| a ||| b) ||| a = L ||| a ||| b := by
    rw [Int32.or_assoc (L ||| a) b a, Int32.or_comm b a, ← Int32.or_assoc, Int32.or_assoc L a a, Int32.or_self]
  rw [h] at e
  exact e
theorem or_up {L M a b : Int32} (h : L ||| a ||| b = L) : (L ||| M) ||| a ||| b = L ||| M := by
  have e : (L ||| M) ||| a ||| b = (L ||| a ||| b) ||| M := by
    rw [Int32.or_assoc L M a, Int32.or_comm M a, ← Int32.or_assoc L a M, Int32.or_assoc (L ||| a) M b, Int32.or_comm M b, ← Int32.or_assoc]
  rw [e, h]
/-- a row on its way: what is remembered in it was worked out afresh, and the cells that it took are among L -/
def Fs (f g : Nat → Int32) (L : Int32) : Prop := (∀ i, i < 10 → ∀ j, j < 5 → g (ix i j) = f (ix i j)) ∧ AF g ∧ ∀ i, i < 10 → g (ix i 6) = 1 → ∃ m S, ev m f i = some (g (ix i 7), S) ∧ L ||| bitI (nI i) ||| S = L
theorem Fs.op {f g h : Nat → Int32} {L M : Int32} {c m : Nat} {S : Int32} (a : Fs f g L) (o : OpC g h c) (h9 : h (ix c 9) = g 0) (he : ev m f c = some (h (ix c 7), S)) (hL : (L ||| M) ||| bitI (nI c) ||| S = L ||| M) : Fs f h (L ||| M) := by
  refine ⟨fun i hi j hj => ?_, o.af a.2.1 h9, fun i hi h6 => ?_⟩
  · by_cases e : i = c
    · subst e; rw [o.2.2.2.2 j (by omega)]; exact a.1 i hi j hj
    · rw [o.2.2.2.1 i j e (by omega)]; exact a.1 i hi j hj
  · by_cases e : i = c
    · subst e; exact ⟨m, S, he, hL⟩
    · rw [o.2.2.2.1 i 6 e (by decide)] at h6
      rw [o.2.2.2.1 i 7 e (by decide)]
      obtain ⟨m', S', e1, e2⟩ := a.2.2 i hi h6
      exact ⟨m', S', e1, or_up e2⟩
theorem end_7 {f : Nat → Int32} {c : Nat} {its many o2 : Int32} : A_end f c its many o2 (ix c 7) = its := by
  unfold A_end
  split
  · exact end1_7
  · exact end1_7
theorem end_9 {f : Nat → Int32} {c : Nat} {its many o2 : Int32} : A_end f c its many o2 (ix c 9) = f 0 := by
  unfold A_end
  split
  · exact end1_9
  · exact end1_9
theorem end_op {f : Nat → Int32} {c : Nat} {its many o2 : Int32} : OpC f (A_end f c its many o2) c := by
  unfold A_end
  split
  · exact end1_op
  · exact end1_op
theorem nxt_f {f g : Nat → Int32} {c : Nat} {x : Int32} (h : ∀ j, j < 5 → g (ix c j) = f (ix c j)) : A_nxt g c x = A_nxt f c x := by
  unfold A_nxt
  rw [h 0 (by decide), h 3 (by decide), h 4 (by decide)]
theorem bits_1 {L b x S B : Int32} (h : L ||| B = L ||| x ||| S) : L ||| (b ||| (B ||| 0)) = L ||| b ||| (S ||| S ||| x ||| x) := by
  rw [Int32.or_zero, Int32.or_self, Int32.or_assoc S x x, Int32.or_self, Int32.or_comm b B, ← Int32.or_assoc, h, Int32.or_comm S x, Int32.or_assoc L x S, Int32.or_assoc, Int32.or_comm (x ||| S) b, ← Int32.or_assoc]
theorem bits_2 {L b x S B y T C : Int32} (h : L ||| B = L ||| x ||| S) (h2 : L ||| B ||| C = L ||| B ||| y ||| T) : L ||| (b ||| (B ||| C)) = L ||| b ||| (S ||| T ||| x ||| y) := by
  have e : L ||| (b ||| (B ||| C)) = (L ||| B ||| C) ||| b := by
    rw [Int32.or_comm b, ← Int32.or_assoc, ← Int32.or_assoc]
  rw [e, h2, h]
  apply Int32.toBitVec_inj.mp
  simp only [Int32.toBitVec_or]
  ext i hi
  simp only [BitVec.getElem_or]
  cases L.toBitVec[i] <;> cases x.toBitVec[i] <;> cases S.toBitVec[i] <;> cases y.toBitVec[i] <;> cases T.toBitVec[i] <;> cases b.toBitVec[i] <;> rfl
theorem bits_3 {L b S M : Int32} (h : L ||| M = L ||| b ||| S) : (L ||| M) ||| b ||| S = L ||| M := by
  rw [h]
  apply Int32.toBitVec_inj.mp
  simp only [Int32.toBitVec_or]
  ext i hi
  simp only [BitVec.getElem_or]
  cases L.toBitVec[i] <;> cases S.toBitVec[i] <;> cases b.toBitVec[i] <;> rfl
/-- a look that ends -/
theorem FL {f : Nat → Int32} : ∀ (n : Nat) (O : List Nat) (g : Nat → Int32) (c : Nat) (h : Nat → Int32) (L : Int32), c < 10 → Pre O g → Fs f g L → A_look n O g c = some h →
    ∃ m S, ev m f c = some (A_ans h c, S) ∧ Fs f h (L ||| A_bits n O g c) ∧ L ||| A_bits n O g c = L ||| bitI (nI c) ||| S := by
  intro n
  induction n with
  | zero => intro O g c h L _ _ _ e; cases e
  | succ n ih =>
    intro O g c h L hc hP hF e
    rw [A_look_s] at e
    rw [A_bits_s]
    have d := hF.1 c hc
    by_cases h0 : g (ix c 0) = 0
    · rw [if_pos h0] at e; cases e
      rw [if_pos (Or.inl h0), Int32.or_zero]
      refine ⟨1, 0, ?_, ⟨hF.1, hF.2.1, fun i hi h6 => ?_⟩, by rw [Int32.or_zero]⟩
      · rw [ev_s, if_pos (by rw [← d 0 (by decide)]; exact h0)]
        unfold A_ans
        rw [if_pos h0, d 1 (by decide)]
      · obtain ⟨m', S', e1, e2⟩ := hF.2.2 i hi h6
        exact ⟨m', S', e1, or_up e2⟩
    · rw [if_neg h0] at e
      by_cases h6 : g (ix c 6) = 1 ∧ g (ix c 9) = g 0
      · rw [if_pos h6] at e; cases e
        rw [if_pos (Or.inr h6), Int32.or_zero]
        obtain ⟨m', S', e1, e2⟩ := hF.2.2 c hc h6.1
        have e3 := or_ab e2
        refine ⟨m', S', ?_, ?_, by rw [e3]; rw [e3] at e2; exact e2.symm⟩
        · unfold A_ans
          rw [take_f (j := 0) (by decide), if_neg h0, take_f (by decide)]
          exact e1
        · exact hF.op take_op (by rw [take_f (by decide)]; exact h6.2) (by rw [take_f (by decide)]; exact e1) (or_up e2)
      · rw [if_neg h6] at e
        rw [if_neg (fun z => z.elim h0 h6)]
        by_cases hO : c ∈ O
        · rw [if_pos hO] at e; cases e
        · rw [if_neg hO] at e
          have h1 : ¬ g (ix c 6) = 1 := fun z => h6 ⟨z, hF.2.1 c hc z⟩
          rw [if_neg h1] at e
          have hP' : Pre (c :: O) g := ⟨hP.1, fun o ho => by
            rcases List.mem_cons.mp ho with rfl | ho
            · exact fun q => q.elim h0 h6
            · exact hP.2 o ho⟩
          unfold A_work at e
          unfold W_bits
          have hx := cN_ok ((hP.1.1 c hc).2.2.1 h0).2.1
          have hf0 : ¬ f (ix c 0) = 0 := by rw [← d 0 (by decide)]; exact h0
          have hfx : cN (f (ix c 2)) = cN (g (ix c 2)) := by rw [d 2 (by decide)]
          have hbx : bitI (f (ix c 2)) = bitI (nI (cN (g (ix c 2)))) := by rw [← hx.2, d 2 (by decide)]
          cases e1 : A_look n (c :: O) g (cN (g (ix c 2))) with
          | none => rw [e1] at e; cases e
          | some f1 =>
            rw [e1] at e
            obtain ⟨m1, S1, v1, F1, b1⟩ := ih _ _ _ _ L hx.1 hP' hF e1
            obtain ⟨g1, fr1⟩ := A_look_good n _ _ _ _ hx.1 hP' e1
            have P1 := hP'.next g1
            have d1 := F1.1 c hc
            dsimp only at e ⊢
            have hcl : ∀ S : Int32, f1 (ix c 0) = f (ix c 0) := fun _ => d1 0 (by decide)
            by_cases hs : f1 (ix c 0) = 5 ∧ A_ans f1 (cN (g (ix c 2))) = 2000000000
            · rw [if_pos hs] at e ⊢
              cases e
              have hev : ev (m1 + 1) f c = some (2000000000, S1 ||| S1 ||| bitI (nI (cN (g (ix c 2)))) ||| bitI (nI (cN (g (ix c 2))))) := by
                rw [ev_s, if_neg hf0, hfx, v1]
                dsimp only
                rw [if_pos (by rw [← d1 0 (by decide)]; exact hs), hbx]
              have bb := bits_1 (b := bitI (nI c)) b1
              refine ⟨m1 + 1, _, ?_, ?_, bb⟩
              · unfold A_ans
                rw [end_op.2.2.2.2 0 (by decide), if_neg (by rw [d1 0 (by decide)]; exact hf0), end_7]
                exact hev
              · have q := F1.op (M := bitI (nI c)) (m := m1 + 1) (S := S1 ||| S1 ||| bitI (nI (cN (g (ix c 2)))) ||| bitI (nI (cN (g (ix c 2))))) (end_op (f := f1) (c := c) (its := 2000000000) (many := 1) (o2 := 0)) end_9 (by rw [end_7]; exact hev) ?_
                · rw [show L ||| (bitI (nI c) ||| (A_bits n (c :: O) g (cN (g (ix c 2))) ||| 0)) = L ||| A_bits n (c :: O) g (cN (g (ix c 2))) ||| bitI (nI c) by rw [Int32.or_zero, Int32.or_comm (bitI (nI c)), Int32.or_assoc]]
                  exact q
                · have bb2 : L ||| A_bits n (c :: O) g (cN (g (ix c 2))) ||| bitI (nI c) = L ||| bitI (nI c) ||| (S1 ||| S1 ||| bitI (nI (cN (g (ix c 2)))) ||| bitI (nI (cN (g (ix c 2))))) := by rw [← bb, Int32.or_zero, Int32.or_comm (bitI (nI c)), Int32.or_assoc]
                  have z := bits_3 (L := L) (M := A_bits n (c :: O) g (cN (g (ix c 2))) ||| bitI (nI c)) ((Int32.or_assoc L _ _).symm.trans bb2)
                  rw [← Int32.or_assoc L] at z
                  exact z
            · rw [if_neg hs] at e ⊢
              have h01 : ¬ f1 (ix c 0) = 0 := by rw [d1 0 (by decide)]; exact hf0
              have hy := cN_ok (nxt_ok (x := A_ans f1 (cN (g (ix c 2)))) P1.1 hc h01)
              have hnx : A_nxt f1 c (A_ans f1 (cN (g (ix c 2)))) = A_nxt f c (A_ans f1 (cN (g (ix c 2)))) := nxt_f (fun j hj => d1 j hj)
              cases e2 : A_look n (c :: O) f1 (cN (A_nxt f1 c (A_ans f1 (cN (g (ix c 2)))))) with
              | none => rw [e2] at e; cases e
              | some f2 =>
                rw [e2] at e
                cases e
                obtain ⟨m2, S2, v2, F2, b2⟩ := ih _ _ _ _ (L ||| A_bits n (c :: O) g (cN (g (ix c 2)))) hy.1 P1 F1 e2
                obtain ⟨g2, fr2⟩ := A_look_good n _ _ _ _ hy.1 P1 e2
                have exx := (g2.2.2.2.2.2.1 _ hx.1 fr1).2.1
                have d2 := F2.1 c hc
                have v1' := ev_le v1 (Nat.le_max_left m1 m2)
                have v2' := ev_le v2 (Nat.le_max_right m1 m2)
                have hev : ev (max m1 m2 + 1) f c = some (A_made (f2 (ix c 0)) (A_ans f2 (cN (g (ix c 2)))) (A_ans f2 (cN (A_nxt f1 c (A_ans f1 (cN (g (ix c 2))))))), S1 ||| S2 ||| bitI (nI (cN (g (ix c 2)))) ||| bitI (nI (cN (A_nxt f1 c (A_ans f1 (cN (g (ix c 2)))))))) := by
                  rw [ev_s, if_neg hf0, hfx, v1']
                  dsimp only
                  rw [if_neg (by rw [← d1 0 (by decide)]; exact hs), ← hnx, v2']
                  dsimp only
                  rw [hbx, exx, d2 0 (by decide), ← hy.2]
                have bb := bits_2 (b := bitI (nI c)) b1 b2
                refine ⟨max m1 m2 + 1, _, ?_, ?_, bb⟩
                · unfold A_ans
                  rw [end_op.2.2.2.2 0 (by decide), if_neg (by rw [d2 0 (by decide)]; exact hf0), end_7]
                  exact hev
                · have eb : L ||| (bitI (nI c) ||| (A_bits n (c :: O) g (cN (g (ix c 2))) ||| A_bits n (c :: O) f1 (cN (A_nxt f1 c (A_ans f1 (cN (g (ix c 2)))))))) = L ||| A_bits n (c :: O) g (cN (g (ix c 2))) ||| A_bits n (c :: O) f1 (cN (A_nxt f1 c (A_ans f1 (cN (g (ix c 2)))))) ||| bitI (nI c) := by rw [Int32.or_comm (bitI (nI c)), ← Int32.or_assoc, ← Int32.or_assoc]
                  rw [eb]
                  refine F2.op (m := max m1 m2 + 1) (S := S1 ||| S2 ||| bitI (nI (cN (g (ix c 2)))) ||| bitI (nI (cN (A_nxt f1 c (A_ans f1 (cN (g (ix c 2)))))))) (end_op (f := f2) (c := c)) end_9 (by rw [end_7]; exact hev) ?_
                  rw [← eb]
                  exact bits_3 bb
/-- a look that finds a ring -/
theorem FN {f : Nat → Int32} : ∀ (n : Nat) (O : List Nat) (g : Nat → Int32) (c : Nat) (L : Int32), c < 10 → Pre O g → OkO O → O.length + n = 11 → Fs f g L → (∀ o, o ∈ O → Desc f o c) → A_look n O g c = none → Never f c := by
  intro n
  induction n with
  | zero =>
    intro O g c L _ _ hO hn
    have := hO.len
    omega
  | succ n ih =>
    intro O g c L hc hP hO hn hF hD e
    rw [A_look_s] at e
    have d := hF.1 c hc
    by_cases h0 : g (ix c 0) = 0
    · rw [if_pos h0] at e; cases e
    · rw [if_neg h0] at e
      by_cases h6 : g (ix c 6) = 1 ∧ g (ix c 9) = g 0
      · rw [if_pos h6] at e; cases e
      · rw [if_neg h6] at e
        by_cases hcO : c ∈ O
        · exact (hD c hcO).self
        · rw [if_neg hcO] at e
          have h1 : ¬ g (ix c 6) = 1 := fun z => h6 ⟨z, hF.2.1 c hc z⟩
          rw [if_neg h1] at e
          have hP' : Pre (c :: O) g := ⟨hP.1, fun o ho => by
            rcases List.mem_cons.mp ho with rfl | ho
            · exact fun q => q.elim h0 h6
            · exact hP.2 o ho⟩
          have hO' := hO.cons hc hcO
          have hn' : (c :: O).length + n = 11 := by rw [List.length_cons]; omega
          unfold A_work at e
          have hx := cN_ok ((hP.1.1 c hc).2.2.1 h0).2.1
          have hf0 : ¬ f (ix c 0) = 0 := by rw [← d 0 (by decide)]; exact h0
          have hfx : cN (f (ix c 2)) = cN (g (ix c 2)) := by rw [d 2 (by decide)]
          have D1 : Desc f c (cN (g (ix c 2))) := by rw [← hfx]; exact desc_1 hf0
          cases e1 : A_look n (c :: O) g (cN (g (ix c 2))) with
          | none =>
            refine D1.never (ih _ _ _ L hx.1 hP' hO' hn' hF (fun o ho => ?_) e1)
            rcases List.mem_cons.mp ho with rfl | ho
            · exact D1
            · exact (hD o ho).tr D1
          | some f1 =>
            rw [e1] at e
            obtain ⟨m1, S1, v1, F1, b1⟩ := FL n _ _ _ _ L hx.1 hP' hF e1
            obtain ⟨g1, fr1⟩ := A_look_good n _ _ _ _ hx.1 hP' e1
            have P1 := hP'.next g1
            have d1 := F1.1 c hc
            dsimp only at e
            by_cases hs : f1 (ix c 0) = 5 ∧ A_ans f1 (cN (g (ix c 2))) = 2000000000
            · rw [if_pos hs] at e; cases e
            · rw [if_neg hs] at e
              have h01 : ¬ f1 (ix c 0) = 0 := by rw [d1 0 (by decide)]; exact hf0
              have hy := cN_ok (nxt_ok (x := A_ans f1 (cN (g (ix c 2)))) P1.1 hc h01)
              have hnx : A_nxt f1 c (A_ans f1 (cN (g (ix c 2)))) = A_nxt f c (A_ans f1 (cN (g (ix c 2)))) := nxt_f (fun j hj => d1 j hj)
              have D2 : Desc f c (cN (A_nxt f1 c (A_ans f1 (cN (g (ix c 2)))))) := by
                rw [hnx]
                exact desc_2 hf0 (by rw [hfx]; exact v1) (by rw [← d1 0 (by decide)]; exact hs)
              cases e2 : A_look n (c :: O) f1 (cN (A_nxt f1 c (A_ans f1 (cN (g (ix c 2)))))) with
              | none =>
                refine D2.never (ih _ _ _ _ hy.1 P1 hO' hn' F1 (fun o ho => ?_) e2)
                rcases List.mem_cons.mp ho with rfl | ho
                · exact D2
                · exact (hD o ho).tr D2
              | some f2 => rw [e2] at e; cases e
theorem FD_wf {f : Nat → Int32} (w : WF f) : WF (FD f) := by
  refine ⟨fun i hi => ?_, by rw [FD_g (by decide)]; exact w.2.1, by rw [FD_g (by decide)]; exact w.2.2⟩
  have w0 := w.1 i hi
  unfold wfCell at w0 ⊢
  rw [FD_6, FD_n (by decide) (by decide), FD_n (by decide) (by decide), FD_n (by decide) (by decide), FD_n (by decide) (by decide), FD_n (by decide) (by decide), FD_n (by decide) (by decide)]
  exact ⟨w0.1, fun z => let q := w0.2.1 z; ⟨q.1, q.2.1, q.2.2.1, q.2.2.2.1, q.2.2.2.2.1, q.2.2.2.2.2.1, rfl⟩, w0.2.2.1, Or.inl rfl, fun z => absurd z (by decide)⟩
theorem FD_af {f : Nat → Int32} : AF (FD f) := fun i _ h => by rw [FD_6] at h; exact absurd h (by decide)
theorem FD_fs {f : Nat → Int32} {L : Int32} : Fs f (FD f) L := ⟨fun i _ j hj => FD_n (by omega) (by omega), FD_af, fun i _ h => by rw [FD_6] at h; exact absurd h (by decide)⟩
/-- a look at a row without answers, from no cell -/
theorem FD_look {f : Nat → Int32} {c : Nat} (w : WF f) (hc : c < 10) : match A_look 11 [] (FD f) c with
    | none => EV f c = none
    | some g => ∃ m S, ev m f c = some (A_ans g c, S) ∧ EV f c = some (A_ans g c, S) ∧ Fr g c ∧ (0 : Int32) ||| A_bits 11 [] (FD f) c = bitI (nI c) ||| S := by
  have hP : Pre [] (FD f) := ⟨FD_wf w, fun o ho => by cases ho⟩
  cases e : A_look 11 [] (FD f) c with
  | none => exact EV_none (FN 11 [] (FD f) c 0 hc hP ⟨List.nodup_nil, fun o ho => by cases ho⟩ rfl FD_fs (fun o ho => by cases ho) e)
  | some g =>
    obtain ⟨m, S, v1, -, b1⟩ := FL 11 [] (FD f) c g 0 hc hP FD_fs e
    refine ⟨m, S, v1, EV_some v1, (A_look_good 11 _ _ _ _ hc hP e).2, ?_⟩
    rw [b1, Int32.zero_or]
