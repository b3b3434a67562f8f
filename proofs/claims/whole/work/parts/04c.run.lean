/-! The reference's loop runs the look. -/
theorem nodup_le : ∀ (n : Nat) (O : List Nat), O.Nodup → (∀ x, x ∈ O → x < n) → O.length ≤ n := by
  intro n
  induction n with
  | zero =>
    intro O _ h
    cases O with
    | nil => exact Nat.le_refl _
    | cons a l => exact absurd (h a List.mem_cons_self) (Nat.not_lt_zero _)
  | succ n ih =>
    intro O hn h
    by_cases hm : n ∈ O
    · have h1 := ih (O.erase n) (hn.erase n) (fun x hx => by
        have h2 := (List.Nodup.mem_erase_iff hn).mp hx
        have h3 := h x h2.2
        have h4 := h2.1
        omega)
      rw [List.length_erase_of_mem hm] at h1
      omega
    · have h1 := ih O hn (fun x hx => by
        have h3 := h x hx
        have h4 : x ≠ n := fun e => hm (e ▸ hx)
        omega)
      omega
def Stk5 (g : Nat → Int32) : List Nat → Prop
  | [] => True
  | c :: O => g O.length = nI c ∧ Stk5 g O
theorem Stk5.low {g h : Nat → Int32} : ∀ {O : List Nat}, Stk5 g O → (∀ k, k < O.length → h k = g k) → Stk5 h O
  | [], _, _ => trivial
  | c :: O, hs, hl => ⟨(hl O.length (Nat.lt_succ_self _)).trans hs.1, hs.2.low (fun k hk => hl k (Nat.lt_succ_of_lt hk))⟩
theorem opn_mem {g : Nat → Int32} {i : Nat} (hi : i < 10) : ∀ {O : List Nat}, Stk5 g O → (∀ o, o ∈ O → o < 10) → (opn g (nI i) O.length = true ↔ i ∈ O)
  | [], _, _ => by simp [opn]
  | c :: O, hs, hO => by
    have ih := opn_mem hi hs.2 (fun o ho => hO o (List.mem_cons_of_mem _ ho))
    have hc := hO c List.mem_cons_self
    simp only [List.length_cons, opn, Bool.or_eq_true, beq_iff_eq, List.mem_cons, ih, hs.1, nI_eq (show c < 2 ^ 31 by omega) (show i < 2 ^ 31 by omega)]
    constructor
    · rintro (h | h)
      · exact Or.inr h
      · exact Or.inl h.symm
    · rintro (h | h)
      · exact Or.inr h.symm
      · exact Or.inl h
/-- what a look leaves as it was beside the state's row -/
def FrS (v w : rcM) : Prop := (∀ id, id ≠ 0 → id ≠ 1 → id ≠ 5 → id ≠ 6 → id ≠ 7 → id ≠ 8 → w id = v id) ∧ ∀ j, j ≠ 10 → j ≠ 11 → w 0 j = v 0 j
def Lo (v w : rcM) (n : Nat) : Prop := ∀ k, k < n → w 5 k = v 5 k ∧ w 6 k = v 6 k ∧ w 7 k = v 7 k ∧ w 8 k = v 8 k
theorem FrS.rf {v : rcM} : FrS v v := ⟨fun _ _ _ _ _ _ _ => rfl, fun _ _ _ => rfl⟩
theorem FrS.tr {u v w : rcM} (a : FrS u v) (b : FrS v w) : FrS u w := ⟨fun id h0 h1 h5 h6 h7 h8 => (b.1 id h0 h1 h5 h6 h7 h8).trans (a.1 id h0 h1 h5 h6 h7 h8), fun j h h' => (b.2 j h h').trans (a.2 j h h')⟩
theorem FrS.u {v : rcM} {a k : Nat} {x : Int32} (h : a = 5 ∨ a = 6 ∨ a = 7 ∨ a = 8) : FrS v (rcu v a k x) := ⟨fun id h0 h1 h5 h6 h7 h8 => rcu_ne (by omega), fun j _ _ => by rw [rcu_ne (by omega)]⟩
theorem FrS.r {v : rcM} {f : Nat → Int32} : FrS v (rcr v 1 f) := ⟨fun id h0 h1 h5 h6 h7 h8 => rcr_n h1, fun j _ _ => by rw [rcr_n (by decide)]⟩
theorem FrS.d {v : rcM} {k : Nat} {x : Int32} (h : k = 10 ∨ k = 11) : FrS v (rcu v 0 k x) := ⟨fun id h0 h1 h5 h6 h7 h8 => rcu_ne h0, fun j h1 h2 => rcu_k (by omega)⟩
theorem Lo.rf {v : rcM} {n : Nat} : Lo v v n := fun _ _ => ⟨rfl, rfl, rfl, rfl⟩
theorem Lo.tr {u v w : rcM} {n : Nat} (a : Lo u v n) (b : Lo v w n) : Lo u w n := fun k hk => by
  obtain ⟨a1, a2, a3, a4⟩ := a k hk
  obtain ⟨b1, b2, b3, b4⟩ := b k hk
  exact ⟨b1.trans a1, b2.trans a2, b3.trans a3, b4.trans a4⟩
theorem Lo.le {v w : rcM} {n m : Nat} (a : Lo v w n) (h : m ≤ n) : Lo v w m := fun k hk => a k (by omega)
theorem Lo.u {v : rcM} {a k n : Nat} {x : Int32} (h : n ≤ k) : Lo v (rcu v a k x) n := fun j hj => by
  have e : ∀ b, rcu v a k x b j = v b j := fun b => by unfold rcu; rw [if_neg (by omega)]
  exact ⟨e 5, e 6, e 7, e 8⟩
theorem Lo.d {v : rcM} {k n : Nat} {x : Int32} : Lo v (rcu v 0 k x) n := fun j _ => ⟨by rw [rcu_ne (by decide)], by rw [rcu_ne (by decide)], by rw [rcu_ne (by decide)], by rw [rcu_ne (by decide)]⟩
theorem Lo.r {v : rcM} {n : Nat} {f : Nat → Int32} : Lo v (rcr v 1 f) n := fun j _ => ⟨by rw [rcr_n (by decide)], by rw [rcr_n (by decide)], by rw [rcr_n (by decide)], by rw [rcr_n (by decide)]⟩
/-- the loop's steps, backwards: H is 'from the loop's head on all goes well' -/
def HStep (H : rcM → Prop) : Prop :=
  (∀ v tp c k u w, c < 10 → tp < 10 → v 5 tp = nI c → v 7 tp = nI k → v 0 10 = nI (tp + 1) → k ≤ 2 → (0 < k → u < 10 ∧ v 1 (ix c (10 + k)) = nI u) → (¬ nI k = v 1 (ix c 10) → k < 2 ∧ w < 10 ∧ v 1 (ix c (11 + k)) = nI w ∧ mayPush (rcu v 7 tp (nI k + 1)) w (tp + 1)) → v 0 11 = 0 → v 6 tp = 0 → H (M_checks v tp c k u w) → H v) ∧
  (∀ v tp c x, c < 10 → tp < 10 → v 5 tp = nI c → v 0 10 = nI (tp + 1) → v 1 (ix c 2) = nI x → x < 10 → v 7 tp = 0 → mayPush (rcu v 7 tp 1) x (tp + 1) → v 0 11 = 0 → v 6 tp = 1 → H (M_enters (rcu v 7 tp 1) x (tp + 1)) → H v) ∧
  (∀ v tp c x w, c < 10 → tp < 10 → v 5 tp = nI c → v 0 10 = nI (tp + 1) → v 1 (ix c 2) = nI x → x < 10 → v 7 tp = 1 → (if v 1 (ix c 0) = 5 ∧ A_ans (v 1) x ≤ 0 then v 1 (ix c 4) else v 1 (ix c 3)) = nI w → w < 10 → (¬ (v 1 (ix c 0) = 5 ∧ A_ans (v 1) x = 2000000000) → mayPush (rcu (rcu v 7 tp 2) 8 tp (nI w)) w (tp + 1)) → v 0 11 = 0 → v 6 tp = 1 → H (M_work1 v tp c x w) → H v) ∧
  (∀ v tp c x y, c < 10 → tp < 10 → v 5 tp = nI c → v 0 10 = nI (tp + 1) → v 1 (ix c 2) = nI x → x < 10 → v 7 tp = 2 → v 8 tp = nI y → y < 10 → v 0 11 = 0 → v 6 tp = 1 → H (M_end (rcu v 7 tp 3) c tp (A_made (v 1 (ix c 0)) (A_ans (v 1) x) (A_ans (v 1) y)) 2 (nI y)) → H v)
/-- what follows a look that came to r, over the stack O, from the memory v -/
def LPost (H : rcM → Prop) (O : List Nat) (v : rcM) (r : Option (Nat → Int32)) : Prop := match r with
  | none => ∀ w, w 0 11 = 1 → FrS v w → H w
  | some g => ∀ w, w 1 = g → w 0 10 = nI O.length → w 0 11 = 0 → Lo v w O.length → FrS v w → H w
theorem LPost.of {H : rcM → Prop} {O : List Nat} {u v : rcM} {r : Option (Nat → Int32)} (h : LPost H O u r) (hl : Lo u v O.length) (hf : FrS u v) : LPost H O v r := by
  cases r with
  | none => exact fun w h1 h2 => h w h1 (hf.tr h2)
  | some g => exact fun w h1 h2 h3 h4 h5 => h w h1 h2 h3 (hl.tr h4) (hf.tr h5)
/-- the stack is a legal one -/
def OkO (O : List Nat) : Prop := O.Nodup ∧ ∀ o, o ∈ O → o < 10
theorem OkO.len {O : List Nat} (h : OkO O) : O.length ≤ 10 := nodup_le 10 O h.1 h.2
theorem OkO.cons {O : List Nat} {c : Nat} (h : OkO O) (hc : c < 10) (hn : c ∉ O) : OkO (c :: O) := ⟨List.nodup_cons.mpr ⟨hn, h.1⟩, fun o ho => by
  rcases List.mem_cons.mp ho with rfl | ho
  · exact hc
  · exact h.2 o ho⟩
theorem may_push {v : rcM} {O : List Nat} {c : Nat} (hc : c < 10) (hO : OkO O) (hs : Stk5 (v 5) O) : mayPush v c O.length := fun _ _ hn => by
  have hm : c ∉ O := fun q => hn ((opn_mem hc hs hO.2).mpr q)
  have := (hO.cons hc hm).len
  simp only [List.length_cons] at this
  omega
def LK (H : rcM → Prop) (n : Nat) : Prop := ∀ (O : List Nat) (c : Nat) (v : rcM), c < 10 → Pre O (v 1) → OkO O → 11 ≤ n + O.length → v 0 10 = nI O.length → Stk5 (v 5) O → v 0 11 = 0 → LPost H O v (A_look n O (v 1) c) → H (M_enters v c O.length)
theorem M_end_row {v : rcM} {c tp : Nat} {its many o2 : Int32} : M_end v c tp its many o2 1 = A_end (v 1) c its many o2 := by
  unfold M_end
  rw [rcu_ne (by decide), rcr_s]
theorem M_end_d {v : rcM} {c tp : Nat} {its many o2 : Int32} : M_end v c tp its many o2 0 10 = nI tp := by
  unfold M_end
  rw [rcu_self]
theorem M_end_r {v : rcM} {c tp : Nat} {its many o2 : Int32} : M_end v c tp its many o2 0 11 = v 0 11 := by
  unfold M_end
  rw [rcu_k (by decide), rcr_n (by decide)]
theorem M_end_Lo {v : rcM} {c tp n : Nat} {its many o2 : Int32} : Lo v (M_end v c tp its many o2) n := Lo.r.tr Lo.d
theorem M_end_Fr {v : rcM} {c tp : Nat} {its many o2 : Int32} : FrS v (M_end v c tp its many o2) := FrS.r.tr (FrS.d (Or.inl rfl))
theorem LW {H : rcM → Prop} (hH : HStep H) {n : Nat} (ih : LK H n) {O : List Nat} {c : Nat} {v : rcM} (hc : c < 10) (hcO : c ∉ O) (hP : Pre (c :: O) (v 1)) (hO : OkO O) (hn : 10 ≤ n + O.length) (hd : v 0 10 = nI (O.length + 1)) (hs : Stk5 (v 5) (c :: O)) (hr : v 0 11 = 0)
    (h6 : v 6 O.length = 1) (h7 : v 7 O.length = 0) (h0 : ¬ v 1 (ix c 0) = 0) (post : LPost H O v (A_work n O (v 1) c)) : H v := by
  have hO' := hO.cons hc hcO
  have hlen : O.length < 10 := by have := hO'.len; simp only [List.length_cons] at this; omega
  have hx := cN_ok ((hP.1.1 c hc).2.2.1 h0).2.1
  generalize ex : cN (v 1 (ix c 2)) = x at *
  have hs' : Stk5 ((rcu v 7 O.length 1) 5) (c :: O) := by rw [rcu_ne (by decide)]; exact hs
  have e1 : (rcu v 7 O.length 1) 1 = v 1 := rcu_ne (by decide)
  refine hH.2.1 v O.length c x hc hlen hs.1 hd hx.2 hx.1 h7 (may_push (O := c :: O) hx.1 hO' hs') hr h6 ?_
  refine ih (c :: O) x (rcu v 7 O.length 1) hx.1 (by rw [e1]; exact hP) hO' (by simp only [List.length_cons]; omega) (by rw [rcu_ne (by decide)]; exact hd) hs' (by rw [rcu_ne (by decide)]; exact hr) ?_
  rw [e1]
  unfold A_work at post
  rw [ex] at post
  cases ea : A_look n (c :: O) (v 1) x with
  | none =>
    rw [ea] at post
    exact fun w h1 h2 => post w h1 ((FrS.u (by decide)).tr h2)
  | some f1 =>
    rw [ea] at post
    dsimp only at post
    intro w1 r1 d1 i1 l1 fr1
    obtain ⟨g1, fx1⟩ := A_look_good n _ _ _ _ hx.1 hP ea
    have P1 := hP.next g1
    have s1 : ∀ j, j < 15 → f1 (ix c j) = v 1 (ix c j) := g1.2.2.2.2.1 c List.mem_cons_self
    have h01 : ¬ f1 (ix c 0) = 0 := by rw [s1 0 (by decide)]; exact h0
    have hy := cN_ok (nxt_ok (x := A_ans f1 x) P1.1 hc h01)
    generalize ey : cN (A_nxt f1 c (A_ans f1 x)) = y at *
    simp only [List.length_cons] at d1 l1
    have q1 := l1 O.length (Nat.lt_succ_self _)
    have L01 : Lo v w1 O.length := (Lo.u (Nat.le_refl _)).tr (l1.le (Nat.le_succ _))
    have F01 : FrS v w1 := (FrS.u (by decide)).tr fr1
    have c5 : w1 5 O.length = nI c := by rw [q1.1, rcu_ne (by decide)]; exact hs.1
    have c6 : w1 6 O.length = 1 := by rw [q1.2.1, rcu_ne (by decide)]; exact h6
    have c7 : w1 7 O.length = 1 := by rw [q1.2.2.1, rcu_self]
    have st1 : Stk5 (w1 5) (c :: O) := ⟨c5, hs.2.low (fun k hk => (L01 k hk).1)⟩
    have st2 : Stk5 ((rcu (rcu w1 7 O.length 2) 8 O.length (nI y)) 5) (c :: O) := by rw [rcu_ne (by decide), rcu_ne (by decide)]; exact st1
    refine hH.2.2.1 w1 O.length c x y hc hlen c5 d1 (by rw [r1, s1 2 (by decide)]; exact hx.2) hx.1 c7 (by rw [r1]; exact hy.2) hy.1 (fun _ => may_push (O := c :: O) hy.1 hO' st2) i1 c6 ?_
    unfold M_work1
    rw [r1]
    have e2 : (rcu (rcu w1 7 O.length 2) 8 O.length (nI y)) 1 = f1 := by rw [rcu_ne (by decide), rcu_ne (by decide)]; exact r1
    split
    · rename_i ht
      rw [if_pos ht] at post
      refine post _ (by rw [M_end_row, e2]) M_end_d ?_ ((L01.tr (Lo.u (Nat.le_refl _))).tr (Lo.u (Nat.le_refl _)) |>.tr M_end_Lo) (((F01.tr (FrS.u (by decide))).tr (FrS.u (by decide))).tr M_end_Fr)
      rw [M_end_r, rcu_ne (by decide), rcu_ne (by decide)]; exact i1
    · rename_i ht
      rw [if_neg ht] at post
      refine ih (c :: O) y _ hy.1 (by rw [e2]; exact P1) hO' (by simp only [List.length_cons]; omega) (by rw [rcu_ne (by decide), rcu_ne (by decide)]; exact d1) st2 (by rw [rcu_ne (by decide), rcu_ne (by decide)]; exact i1) ?_
      rw [e2]
      have F02 : FrS v (rcu (rcu w1 7 O.length 2) 8 O.length (nI y)) := (F01.tr (FrS.u (by decide))).tr (FrS.u (by decide))
      have L02 : Lo v (rcu (rcu w1 7 O.length 2) 8 O.length (nI y)) O.length := (L01.tr (Lo.u (Nat.le_refl _))).tr (Lo.u (Nat.le_refl _))
      cases eb : A_look n (c :: O) f1 y with
      | none =>
        rw [eb] at post
        exact fun w h1 h2 => post w h1 (F02.tr h2)
      | some f2 =>
        rw [eb] at post
        dsimp only at post
        intro w2 r2 d2 i2 l2 fr2
        obtain ⟨g2, fx2⟩ := A_look_good n _ _ _ _ hy.1 P1 eb
        have s2 : ∀ j, j < 15 → f2 (ix c j) = f1 (ix c j) := g2.2.2.2.2.1 c List.mem_cons_self
        simp only [List.length_cons] at d2 l2
        have q2 := l2 O.length (Nat.lt_succ_self _)
        have c52 : w2 5 O.length = nI c := by rw [q2.1, rcu_ne (by decide), rcu_ne (by decide)]; exact c5
        have c62 : w2 6 O.length = 1 := by rw [q2.2.1, rcu_ne (by decide), rcu_ne (by decide)]; exact c6
        have c72 : w2 7 O.length = 2 := by rw [q2.2.2.1, rcu_ne (by decide), rcu_self]
        have c82 : w2 8 O.length = nI y := by rw [q2.2.2.2, rcu_self]
        refine hH.2.2.2 w2 O.length c x y hc hlen c52 d2 (by rw [r2, s2 2 (by decide), s1 2 (by decide)]; exact hx.2) hx.1 c72 c82 hy.1 i2 c62 ?_
        refine post _ ?_ M_end_d ?_ (((L02.tr (l2.le (Nat.le_succ _))).tr (Lo.u (Nat.le_refl _))).tr M_end_Lo) (((F02.tr fr2).tr (FrS.u (by decide))).tr M_end_Fr)
        · rw [M_end_row, rcu_ne (by decide), r2, ← hy.2]
        · rw [M_end_r, rcu_ne (by decide)]; exact i2
theorem LC {H : rcM → Prop} (hH : HStep H) {n : Nat} (ih : LK H n) {O : List Nat} {c : Nat} {v : rcM} (hc : c < 10) (hcO : c ∉ O) (hP : Pre (c :: O) (v 1)) (hO : OkO O) (hn : 10 ≤ n + O.length) (hd : v 0 10 = nI (O.length + 1)) (hs : Stk5 (v 5) (c :: O)) (hr : v 0 11 = 0)
    (h6 : v 6 O.length = 0) (h7 : v 7 O.length = 0) (h0 : ¬ v 1 (ix c 0) = 0) (hh : v 1 (ix c 6) = 1) (post : LPost H O v (A_chk n O (v 1) c)) : H v := by
  have hO' := hO.cons hc hcO
  have hlen : O.length < 10 := by have := hO'.len; simp only [List.length_cons] at this; omega
  have hw := (hP.1.1 c hc).2.2.2.2 hh
  have hx := cN_ok (show okC (v 1 (ix c 11)) by rw [hw.1]; exact ((hP.1.1 c hc).2.2.1 h0).2.1)
  generalize ex : cN (v 1 (ix c 11)) = x at *
  have hm0 : ¬ nI 0 = v 1 (ix c 10) := by
    rcases hw.2.1 with z | z
    · rw [z]; decide
    · rw [z.1]; decide
  have e1 : (rcu v 7 O.length (nI 0 + 1)) 1 = v 1 := rcu_ne (by decide)
  have hs' : Stk5 ((rcu v 7 O.length (nI 0 + 1)) 5) (c :: O) := by rw [rcu_ne (by decide)]; exact hs
  refine hH.1 v O.length c 0 0 x hc hlen hs.1 h7 hd (by decide) (fun q => absurd q (by decide)) (fun _ => ⟨by decide, hx.1, hx.2, may_push (O := c :: O) hx.1 hO' hs'⟩) hr h6 ?_
  unfold M_checks
  rw [if_neg (fun q => absurd q.1 (by decide)), if_neg hm0]
  refine ih (c :: O) x _ hx.1 (by rw [e1]; exact hP) hO' (by simp only [List.length_cons]; omega) (by rw [rcu_ne (by decide)]; exact hd) hs' (by rw [rcu_ne (by decide)]; exact hr) ?_
  rw [e1]
  unfold A_chk at post
  rw [ex] at post
  cases ea : A_look n (c :: O) (v 1) x with
  | none =>
    rw [ea] at post
    exact fun w h1 h2 => post w h1 ((FrS.u (by decide)).tr h2)
  | some f1 =>
    rw [ea] at post
    dsimp only at post
    intro w1 r1 d1 i1 l1 fr1
    obtain ⟨g1, fx1⟩ := A_look_good n _ _ _ _ hx.1 hP ea
    have P1 := hP.next g1
    have s1 : ∀ j, j < 15 → f1 (ix c j) = v 1 (ix c j) := g1.2.2.2.2.1 c List.mem_cons_self
    have h01 : ¬ f1 (ix c 0) = 0 := by rw [s1 0 (by decide)]; exact h0
    have h61 : f1 (ix c 6) = 1 := by rw [s1 6 (by decide)]; exact hh
    have hw1 := (P1.1.1 c hc).2.2.2.2 h61
    simp only [List.length_cons] at d1 l1
    have q1 := l1 O.length (Nat.lt_succ_self _)
    have L01 : Lo v w1 O.length := (Lo.u (Nat.le_refl _)).tr (l1.le (Nat.le_succ _))
    have F01 : FrS v w1 := (FrS.u (by decide)).tr fr1
    have c5 : w1 5 O.length = nI c := by rw [q1.1, rcu_ne (by decide)]; exact hs.1
    have c6 : w1 6 O.length = 0 := by rw [q1.2.1, rcu_ne (by decide)]; exact h6
    have c7 : w1 7 O.length = nI 1 := by rw [q1.2.2.1, rcu_self]; decide
    have st1 : Stk5 (w1 5) (c :: O) := ⟨c5, hs.2.low (fun k hk => (L01 k hk).1)⟩
    have st2 : Stk5 ((rcu w1 7 O.length (nI 1 + 1)) 5) (c :: O) := by rw [rcu_ne (by decide)]; exact st1
    have two : ¬ f1 (ix c 10) = 1 → f1 (ix c 10) = 2 ∧ cN (f1 (ix c 12)) < 10 ∧ f1 (ix c 12) = nI (cN (f1 (ix c 12))) := fun z => by
      rcases hw1.2.1 with q | q
      · exact absurd q z
      · exact ⟨q.1, cN_ok q.2⟩
    generalize ey : cN (f1 (ix c 12)) = y at *
    refine hH.1 w1 O.length c 1 x y hc hlen c5 c7 d1 (by decide) (fun _ => ⟨hx.1, by rw [r1, s1 (10 + 1) (by decide)]; exact hx.2⟩) (fun q => ?_) i1 c6 ?_
    · have z := two (fun z => q (by rw [r1, z]; rfl))
      exact ⟨by decide, z.2.1, by rw [r1]; exact z.2.2, may_push (O := c :: O) z.2.1 hO' st2⟩
    · unfold M_checks
      rw [r1]
      by_cases hcmp : f1 (ix c 9) < A_chg f1 x
      · rw [if_pos ⟨by decide, hcmp⟩]
        rw [if_pos hcmp] at post
        have e2 : (rcu (rcu w1 6 O.length 1) 7 O.length 0) 1 = f1 := by rw [rcu_ne (by decide), rcu_ne (by decide)]; exact r1
        refine LW hH ih (c := c) hc hcO (by rw [e2]; exact P1) hO hn (by rw [rcu_ne (by decide), rcu_ne (by decide)]; exact d1) (by rw [rcu_ne (by decide), rcu_ne (by decide)]; exact st1) (by rw [rcu_ne (by decide), rcu_ne (by decide)]; exact i1) (by rw [rcu_ne (by decide), rcu_self]) (by rw [rcu_self]) (by rw [e2]; exact h01) ?_
        rw [e2]
        exact post.of ((L01.tr (Lo.u (Nat.le_refl _))).tr (Lo.u (Nat.le_refl _))) ((F01.tr (FrS.u (by decide))).tr (FrS.u (by decide)))
      · rw [if_neg (fun q => hcmp q.2)]
        rw [if_neg hcmp] at post
        by_cases hm : f1 (ix c 10) = 1
        · rw [if_pos (by rw [hm]; rfl)]
          rw [if_pos hm] at post
          exact post _ (by rw [rcu_ne (by decide), rcr_s]) rcu_self (by rw [rcu_k (by decide), rcr_n (by decide)]; exact i1) ((L01.tr Lo.r).tr Lo.d) ((F01.tr FrS.r).tr (FrS.d (Or.inl rfl)))
        · rw [if_neg (fun q => hm (by rw [← q]; rfl))]
          rw [if_neg hm] at post
          have z := two hm
          have e2 : (rcu w1 7 O.length (nI 1 + 1)) 1 = f1 := by rw [rcu_ne (by decide)]; exact r1
          refine ih (c :: O) y _ z.2.1 (by rw [e2]; exact P1) hO' (by simp only [List.length_cons]; omega) (by rw [rcu_ne (by decide)]; exact d1) st2 (by rw [rcu_ne (by decide)]; exact i1) ?_
          rw [e2]
          have F02 : FrS v (rcu w1 7 O.length (nI 1 + 1)) := F01.tr (FrS.u (by decide))
          have L02 : Lo v (rcu w1 7 O.length (nI 1 + 1)) O.length := L01.tr (Lo.u (Nat.le_refl _))
          cases eb : A_look n (c :: O) f1 y with
          | none =>
            rw [eb] at post
            exact fun w h1 h2 => post w h1 (F02.tr h2)
          | some f2 =>
            rw [eb] at post
            dsimp only at post
            intro w2 r2 d2 i2 l2 fr2
            obtain ⟨g2, fx2⟩ := A_look_good n _ _ _ _ z.2.1 P1 eb
            have P2 := P1.next g2
            have s2 : ∀ j, j < 15 → f2 (ix c j) = f1 (ix c j) := g2.2.2.2.2.1 c List.mem_cons_self
            simp only [List.length_cons] at d2 l2
            have q2 := l2 O.length (Nat.lt_succ_self _)
            have L03 : Lo v w2 O.length := L02.tr (l2.le (Nat.le_succ _))
            have F03 : FrS v w2 := F02.tr fr2
            have c52 : w2 5 O.length = nI c := by rw [q2.1, rcu_ne (by decide)]; exact c5
            have c62 : w2 6 O.length = 0 := by rw [q2.2.1, rcu_ne (by decide)]; exact c6
            have c72 : w2 7 O.length = nI 2 := by rw [q2.2.2.1, rcu_self]; decide
            have m2 : f2 (ix c 10) = 2 := by rw [s2 10 (by decide)]; exact z.1
            have st3 : Stk5 (w2 5) (c :: O) := ⟨c52, hs.2.low (fun k hk => (L03 k hk).1)⟩
            refine hH.1 w2 O.length c 2 y 0 hc hlen c52 c72 d2 (by decide) (fun _ => ⟨z.2.1, by rw [r2, s2 (10 + 2) (by decide)]; exact z.2.2⟩) (fun q => absurd (by rw [r2, m2]; rfl) q) i2 c62 ?_
            unfold M_checks
            rw [r2]
            by_cases hcmp2 : f2 (ix c 9) < A_chg f2 y
            · rw [if_pos ⟨by decide, hcmp2⟩]
              rw [if_pos hcmp2] at post
              have e3 : (rcu (rcu w2 6 O.length 1) 7 O.length 0) 1 = f2 := by rw [rcu_ne (by decide), rcu_ne (by decide)]; exact r2
              refine LW hH ih (c := c) hc hcO (by rw [e3]; exact P2) hO hn (by rw [rcu_ne (by decide), rcu_ne (by decide)]; exact d2) (by rw [rcu_ne (by decide), rcu_ne (by decide)]; exact st3) (by rw [rcu_ne (by decide), rcu_ne (by decide)]; exact i2) (by rw [rcu_ne (by decide), rcu_self]) (by rw [rcu_self]) (by rw [e3, s2 0 (by decide)]; exact h01) ?_
              rw [e3]
              exact post.of ((L03.tr (Lo.u (Nat.le_refl _))).tr (Lo.u (Nat.le_refl _))) ((F03.tr (FrS.u (by decide))).tr (FrS.u (by decide)))
            · rw [if_neg (fun q => hcmp2 q.2), if_pos (by rw [m2]; rfl)]
              rw [if_neg hcmp2] at post
              exact post _ (by rw [rcu_ne (by decide), rcr_s]) rcu_self (by rw [rcu_k (by decide), rcr_n (by decide)]; exact i2) ((L03.tr Lo.r).tr Lo.d) ((F03.tr FrS.r).tr (FrS.d (Or.inl rfl)))
theorem LK_all {H : rcM → Prop} (hH : HStep H) : ∀ n, LK H n := by
  intro n
  induction n with
  | zero =>
    intro O c v hc hP hO hn
    have := hO.len
    omega
  | succ n ih =>
    intro O c v hc hP hO hn hd hs hr post
    rw [A_look_s] at post
    unfold M_enters
    by_cases h0 : v 1 (ix c 0) = 0
    · rw [if_pos h0]
      rw [if_pos h0] at post
      exact post v rfl hd hr Lo.rf FrS.rf
    · rw [if_neg h0]
      rw [if_neg h0] at post
      by_cases h6 : v 1 (ix c 6) = 1 ∧ v 1 (ix c 9) = v 1 0
      · rw [if_pos h6]
        rw [if_pos h6] at post
        exact post _ rcr_s (by rw [rcr_n (by decide)]; exact hd) (by rw [rcr_n (by decide)]; exact hr) Lo.r FrS.r
      · rw [if_neg h6]
        rw [if_neg h6] at post
        by_cases hm : c ∈ O
        · rw [if_pos ((opn_mem hc hs hO.2).mpr hm)]
          rw [if_pos hm] at post
          exact post _ rcu_self (FrS.d (Or.inr rfl))
        · rw [if_neg (fun q => hm ((opn_mem hc hs hO.2).mp q))]
          rw [if_neg hm] at post
          have hnf : ¬ Fr (v 1) c := fun q => q.elim h0 h6
          have hP' : Pre (c :: O) (v 1) := ⟨hP.1, fun o ho => by
            rcases List.mem_cons.mp ho with rfl | ho
            · exact hnf
            · exact hP.2 o ho⟩
          have L0 : Lo v (M_push v c O.length) O.length := (((Lo.u (Nat.le_refl _)).tr (Lo.u (Nat.le_refl _))).tr (Lo.u (Nat.le_refl _))).tr Lo.d
          have F0 : FrS v (M_push v c O.length) := (((FrS.u (by decide)).tr (FrS.u (by decide))).tr (FrS.u (by decide))).tr (FrS.d (Or.inl rfl))
          have p1 : M_push v c O.length 1 = v 1 := by unfold M_push; rw [rcu_ne (by decide), rcu_ne (by decide), rcu_ne (by decide), rcu_ne (by decide)]
          have p5 : M_push v c O.length 5 O.length = nI c := by unfold M_push; rw [rcu_ne (by decide), rcu_ne (by decide), rcu_ne (by decide), rcu_self]
          have p6 : M_push v c O.length 6 O.length = if v 1 (ix c 6) = 1 then 0 else 1 := by unfold M_push; rw [rcu_ne (by decide), rcu_ne (by decide), rcu_self]
          have p7 : M_push v c O.length 7 O.length = 0 := by unfold M_push; rw [rcu_ne (by decide), rcu_self]
          have pd : M_push v c O.length 0 10 = nI (O.length + 1) := by unfold M_push; rw [rcu_self]
          have pr : M_push v c O.length 0 11 = 0 := by unfold M_push; rw [rcu_k (by decide), rcu_ne (by decide), rcu_ne (by decide), rcu_ne (by decide)]; exact hr
          have ps : Stk5 (M_push v c O.length 5) (c :: O) := ⟨p5, hs.low (fun k hk => (L0 k hk).1)⟩
          by_cases hh : v 1 (ix c 6) = 1
          · rw [if_pos hh] at post p6
            refine LC hH ih hc hm (by rw [p1]; exact hP') hO (by omega) pd ps pr p6 p7 (by rw [p1]; exact h0) (by rw [p1]; exact hh) ?_
            rw [p1]
            exact post.of L0 F0
          · rw [if_neg hh] at post p6
            refine LW hH ih hc hm (by rw [p1]; exact hP') hO (by omega) pd ps pr p6 p7 (by rw [p1]; exact h0) ?_
            rw [p1]
            exact post.of L0 F0
