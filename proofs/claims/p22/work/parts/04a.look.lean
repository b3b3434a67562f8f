/-! What a look is, as a function of the state's row; what it keeps. -/
theorem ix_o {i c j k : Nat} (h : i ≠ c) (hj : j < 15) (hk : k < 15) : ix i j ≠ ix c k := by unfold ix; omega
theorem ix_j {i j k : Nat} (h : j ≠ k) : ix i j ≠ ix i k := by unfold ix; omega
theorem ix_g {i j k : Nat} (h : k < 8) : ix i j ≠ k := by unfold ix; omega
theorem ix_h {i j k : Nat} (h : k < 8) : k ≠ ix i j := by unfold ix; omega
/-- an answer's range -/
def okA (x : Int32) : Prop := x = 2000000000 ∨ (-1000000000 ≤ x.toInt ∧ x.toInt ≤ 1000000000)
/-- a cell number in a row -/
def okC (x : Int32) : Prop := ∃ i, i < 10 ∧ x = nI i
def wfCell (f : Nat → Int32) (i : Nat) : Prop :=
  (∃ fo : Nat, fo ≤ 5 ∧ f (ix i 0) = nI fo) ∧
  (f (ix i 0) = 0 → -99999 ≤ (f (ix i 1)).toInt ∧ (f (ix i 1)).toInt ≤ 99999 ∧ f (ix i 2) = 0 ∧ f (ix i 3) = 0 ∧ f (ix i 4) = 0 ∧ 0 ≤ (f (ix i 5)).toInt ∧ f (ix i 6) = 0) ∧
  (¬ f (ix i 0) = 0 → f (ix i 1) = 0 ∧ okC (f (ix i 2)) ∧ okC (f (ix i 3)) ∧ okC (f (ix i 4)) ∧ (¬ f (ix i 0) = 5 → f (ix i 4) = 0)) ∧
  (f (ix i 6) = 0 ∨ f (ix i 6) = 1) ∧
  (f (ix i 6) = 1 → f (ix i 11) = f (ix i 2) ∧ ((f (ix i 10) = 1) ∨ (f (ix i 10) = 2 ∧ okC (f (ix i 12)))) ∧ okA (f (ix i 7)) ∧ 0 ≤ (f (ix i 8)).toInt)
def WF (f : Nat → Int32) : Prop := (∀ i, i < 10 → wfCell f i) ∧ 0 ≤ (f 0).toInt ∧ 0 ≤ (f 5).toInt
/-- seen now, or a value -/
def Fr (f : Nat → Int32) (i : Nat) : Prop := f (ix i 0) = 0 ∨ (f (ix i 6) = 1 ∧ f (ix i 9) = f 0)
/-- what looks keep: O are the open cells -/
def Good (f g : Nat → Int32) (O : List Nat) : Prop :=
  g 0 = f 0 ∧ g 4 = f 4 ∧ g 5 = f 5 ∧ (∀ i, i < 10 → ∀ j, j < 6 → g (ix i j) = f (ix i j)) ∧ (∀ o, o ∈ O → ∀ j, j < 15 → g (ix o j) = f (ix o j)) ∧
  (∀ i, i < 10 → Fr f i → Fr g i ∧ A_ans g i = A_ans f i ∧ A_chg g i = A_chg f i) ∧ (WF f → WF g)
theorem Good.rf {f : Nat → Int32} {O : List Nat} : Good f f O := ⟨rfl, rfl, rfl, fun _ _ _ _ => rfl, fun _ _ _ _ => rfl, fun _ _ h => ⟨h, rfl, rfl⟩, fun h => h⟩
theorem Good.tr {f g h : Nat → Int32} {O : List Nat} (a : Good f g O) (b : Good g h O) : Good f h O := by
  obtain ⟨a1, a2, a3, a4, a5, a6, a7⟩ := a
  obtain ⟨b1, b2, b3, b4, b5, b6, b7⟩ := b
  refine ⟨b1.trans a1, b2.trans a2, b3.trans a3, fun i hi j hj => (b4 i hi j hj).trans (a4 i hi j hj), fun o ho j hj => (b5 o ho j hj).trans (a5 o ho j hj), fun i hi hf => ?_, fun hw => b7 (a7 hw)⟩
  obtain ⟨x1, x2, x3⟩ := a6 i hi hf
  obtain ⟨y1, y2, y3⟩ := b6 i hi x1
  exact ⟨y1, y2.trans x2, y3.trans x3⟩
theorem Good.tail {f g : Nat → Int32} {c : Nat} {O : List Nat} (a : Good f g (c :: O)) : Good f g O := ⟨a.1, a.2.1, a.2.2.1, a.2.2.2.1, fun o ho => a.2.2.2.2.1 o (List.mem_cons_of_mem _ ho), a.2.2.2.2.2⟩
theorem Good.nfr {f g : Nat → Int32} {O : List Nat} (a : Good f g O) {o : Nat} (ho : o ∈ O) (h : ¬ Fr f o) : ¬ Fr g o := by
  intro q
  apply h
  obtain ⟨a1, -, -, -, a5, -⟩ := a
  unfold Fr at q ⊢
  rw [a5 o ho 0 (by decide), a5 o ho 6 (by decide), a5 o ho 9 (by decide), a1] at q
  exact q
/-- a number as a cell -/
def cN (x : Int32) : Nat := x.toNatClampNeg
theorem cN_nI {i : Nat} (h : i < 10) : cN (nI i) = i := nI_clamp (by omega)
theorem cN_ok {x : Int32} (h : okC x) : cN x < 10 ∧ x = nI (cN x) := by
  obtain ⟨i, hi, rfl⟩ := h
  rw [cN_nI hi]
  exact ⟨hi, rfl⟩
/-- the cell that is used after the first one, whose answer is x -/
def A_nxt (f : Nat → Int32) (c : Nat) (x : Int32) : Int32 := if f (ix c 0) = 5 ∧ x ≤ 0 then f (ix c 4) else f (ix c 3)
def A_look : Nat → List Nat → (Nat → Int32) → Nat → Option (Nat → Int32)
  | 0, _, _, _ => none
  | n + 1, O, f, c =>
    if f (ix c 0) = 0 then some f
    else if f (ix c 6) = 1 ∧ f (ix c 9) = f 0 then some (A_take f c)
    else if c ∈ O then none
    else
      let work : (Nat → Int32) → Option (Nat → Int32) := fun f =>
        match A_look n (c :: O) f (cN (f (ix c 2))) with
        | none => none
        | some f1 =>
          if f1 (ix c 0) = 5 ∧ A_ans f1 (cN (f (ix c 2))) = 2000000000 then some (A_end f1 c 2000000000 1 0)
          else match A_look n (c :: O) f1 (cN (A_nxt f1 c (A_ans f1 (cN (f (ix c 2)))))) with
            | none => none
            | some f2 => some (A_end f2 c (A_made (f2 (ix c 0)) (A_ans f2 (cN (f (ix c 2)))) (A_ans f2 (cN (A_nxt f1 c (A_ans f1 (cN (f (ix c 2)))))))) 2 (A_nxt f1 c (A_ans f1 (cN (f (ix c 2))))))
      if f (ix c 6) = 1 then
        match A_look n (c :: O) f (cN (f (ix c 11))) with
        | none => none
        | some f1 =>
          if f1 (ix c 9) < A_chg f1 (cN (f (ix c 11))) then work f1
          else if f1 (ix c 10) = 1 then some (A_keep f1 c)
          else match A_look n (c :: O) f1 (cN (f1 (ix c 12))) with
            | none => none
            | some f2 => if f2 (ix c 9) < A_chg f2 (cN (f1 (ix c 12))) then work f2 else some (A_keep f2 c)
      else work f
/-- to work a formula out: its first cell, then its second -/
def A_work (n : Nat) (O : List Nat) (f : Nat → Int32) (c : Nat) : Option (Nat → Int32) :=
  match A_look n (c :: O) f (cN (f (ix c 2))) with
  | none => none
  | some f1 =>
    if f1 (ix c 0) = 5 ∧ A_ans f1 (cN (f (ix c 2))) = 2000000000 then some (A_end f1 c 2000000000 1 0)
    else match A_look n (c :: O) f1 (cN (A_nxt f1 c (A_ans f1 (cN (f (ix c 2)))))) with
      | none => none
      | some f2 => some (A_end f2 c (A_made (f2 (ix c 0)) (A_ans f2 (cN (f (ix c 2)))) (A_ans f2 (cN (A_nxt f1 c (A_ans f1 (cN (f (ix c 2)))))))) 2 (A_nxt f1 c (A_ans f1 (cN (f (ix c 2))))))
/-- a remembered answer is looked at again -/
def A_chk (n : Nat) (O : List Nat) (f : Nat → Int32) (c : Nat) : Option (Nat → Int32) :=
  match A_look n (c :: O) f (cN (f (ix c 11))) with
  | none => none
  | some f1 =>
    if f1 (ix c 9) < A_chg f1 (cN (f (ix c 11))) then A_work n O f1 c
    else if f1 (ix c 10) = 1 then some (A_keep f1 c)
    else match A_look n (c :: O) f1 (cN (f1 (ix c 12))) with
      | none => none
      | some f2 => if f2 (ix c 9) < A_chg f2 (cN (f1 (ix c 12))) then A_work n O f2 c else some (A_keep f2 c)
theorem A_look_s (n : Nat) (O : List Nat) (f : Nat → Int32) (c : Nat) : A_look (n + 1) O f c =
    if f (ix c 0) = 0 then some f
    else if f (ix c 6) = 1 ∧ f (ix c 9) = f 0 then some (A_take f c)
    else if c ∈ O then none
    else if f (ix c 6) = 1 then A_chk n O f c else A_work n O f c := rfl
/-- what the three ends of a look do: to cell c alone, and to the counts -/
def OpC (f g : Nat → Int32) (c : Nat) : Prop := g 0 = f 0 ∧ g 4 = f 4 ∧ g 5 = f 5 ∧ (∀ i j, i ≠ c → j < 15 → g (ix i j) = f (ix i j)) ∧ ∀ j, j < 6 → g (ix c j) = f (ix c j)
theorem OpC.of {f g : Nat → Int32} {c : Nat} (h : ∀ k, k ≠ 1 → k ≠ 2 → k ≠ 3 → k ≠ 6 → k ≠ 7 → (∀ j, 6 ≤ j → j < 14 → k ≠ ix c j) → g k = f k) : OpC f g c := by
  refine ⟨h 0 (by decide) (by decide) (by decide) (by decide) (by decide) (fun j _ _ => ix_h (by decide)), h 4 (by decide) (by decide) (by decide) (by decide) (by decide) (fun j _ _ => ix_h (by decide)), h 5 (by decide) (by decide) (by decide) (by decide) (by decide) (fun j _ _ => ix_h (by decide)), fun i j hi hj => ?_, fun j hj => ?_⟩
  · exact h _ (ix_g (by decide)) (ix_g (by decide)) (ix_g (by decide)) (ix_g (by decide)) (ix_g (by decide)) (fun q _ hq => ix_o hi hj (by omega))
  · exact h _ (ix_g (by decide)) (ix_g (by decide)) (ix_g (by decide)) (ix_g (by decide)) (ix_g (by decide)) (fun q h6 _ => ix_j (by omega))
theorem take_op {f : Nat → Int32} {c : Nat} : OpC f (A_take f c) c := OpC.of (fun k h1 h2 h3 h6 h7 h => by
  unfold A_take A_uses
  rw [pk_un (h 13 (by decide) (by decide)), pk_un h7, pk_un h3])
theorem keep_op {f : Nat → Int32} {c : Nat} : OpC f (A_keep f c) c := OpC.of (fun k h1 h2 h3 h6 h7 h => by
  unfold A_keep A_uses
  rw [pk_un (h 13 (by decide) (by decide)), pk_un h7, pk_un h2, pk_un (h 9 (by decide) (by decide))])
theorem end1_op {f : Nat → Int32} {c : Nat} {ds ch its many o2 : Int32} : OpC f (A_end1 f c ds ch its many o2) c := OpC.of (fun k h1 h2 h3 h6 h7 h => by
  unfold A_end1 A_uses
  rw [pk_un (h 13 (by decide) (by decide)), pk_un h7, pk_un h1, pk_un (h 12 (by decide) (by decide)), pk_un (h 11 (by decide) (by decide)), pk_un (h 10 (by decide) (by decide)), pk_un (h 9 (by decide) (by decide)), pk_un (h 7 (by decide) (by decide)), pk_un (h 6 (by decide) (by decide)), pk_un (h 8 (by decide) (by decide)), pk_un h6])
theorem take_f {f : Nat → Int32} {c j : Nat} (hj : j < 13) : A_take f c (ix c j) = f (ix c j) := by
  unfold A_take A_uses
  rw [pk_un (ix_j (by omega)), pk_un (ix_g (by decide)), pk_un (ix_g (by decide))]
theorem keep_f {f : Nat → Int32} {c j : Nat} (hj : j < 13) (h9 : j ≠ 9) : A_keep f c (ix c j) = f (ix c j) := by
  unfold A_keep A_uses
  rw [pk_un (ix_j (by omega)), pk_un (ix_g (by decide)), pk_un (ix_g (by decide)), pk_un (ix_j h9)]
theorem keep_9 {f : Nat → Int32} {c : Nat} : A_keep f c (ix c 9) = f 0 := by
  unfold A_keep A_uses
  rw [pk_un (ix_j (by omega)), pk_un (ix_g (by decide)), pk_un (ix_g (by decide)), pk_us]
theorem end1_6 {f : Nat → Int32} {c : Nat} {ds ch its many o2 : Int32} : A_end1 f c ds ch its many o2 (ix c 6) = 1 := by
  unfold A_end1 A_uses
  rw [pk_un (ix_j (by decide)), pk_un (ix_g (by decide)), pk_un (ix_g (by decide)), pk_un (ix_j (by decide)), pk_un (ix_j (by decide)), pk_un (ix_j (by decide)), pk_un (ix_j (by decide)), pk_un (ix_j (by decide)), pk_us]
theorem end1_7 {f : Nat → Int32} {c : Nat} {ds ch its many o2 : Int32} : A_end1 f c ds ch its many o2 (ix c 7) = its := by
  unfold A_end1 A_uses
  rw [pk_un (ix_j (by decide)), pk_un (ix_g (by decide)), pk_un (ix_g (by decide)), pk_un (ix_j (by decide)), pk_un (ix_j (by decide)), pk_un (ix_j (by decide)), pk_un (ix_j (by decide)), pk_us]
theorem end1_8 {f : Nat → Int32} {c : Nat} {ds ch its many o2 : Int32} : A_end1 f c ds ch its many o2 (ix c 8) = ch := by
  unfold A_end1 A_uses
  rw [pk_un (ix_j (by decide)), pk_un (ix_g (by decide)), pk_un (ix_g (by decide)), pk_un (ix_j (by decide)), pk_un (ix_j (by decide)), pk_un (ix_j (by decide)), pk_un (ix_j (by decide)), pk_un (ix_j (by decide)), pk_un (ix_j (by decide)), pk_us]
theorem end1_9 {f : Nat → Int32} {c : Nat} {ds ch its many o2 : Int32} : A_end1 f c ds ch its many o2 (ix c 9) = f 0 := by
  unfold A_end1 A_uses
  rw [pk_un (ix_j (by decide)), pk_un (ix_g (by decide)), pk_un (ix_g (by decide)), pk_un (ix_j (by decide)), pk_un (ix_j (by decide)), pk_un (ix_j (by decide)), pk_us, pk_un (ix_h (by decide)), pk_un (ix_h (by decide)), pk_un (ix_h (by decide)), pk_un (by decide)]
theorem end1_10 {f : Nat → Int32} {c : Nat} {ds ch its many o2 : Int32} : A_end1 f c ds ch its many o2 (ix c 10) = many := by
  unfold A_end1 A_uses
  rw [pk_un (ix_j (by decide)), pk_un (ix_g (by decide)), pk_un (ix_g (by decide)), pk_un (ix_j (by decide)), pk_un (ix_j (by decide)), pk_us]
theorem end1_11 {f : Nat → Int32} {c : Nat} {ds ch its many o2 : Int32} : A_end1 f c ds ch its many o2 (ix c 11) = f (ix c 2) := by
  unfold A_end1 A_uses
  rw [pk_un (ix_j (by decide)), pk_un (ix_g (by decide)), pk_un (ix_g (by decide)), pk_un (ix_j (by decide)), pk_us, pk_un (ix_j (by decide)), pk_un (ix_j (by decide)), pk_un (ix_j (by decide)), pk_un (ix_j (by decide)), pk_un (ix_j (by decide)), pk_un (ix_g (by decide))]
theorem end1_12 {f : Nat → Int32} {c : Nat} {ds ch its many o2 : Int32} : A_end1 f c ds ch its many o2 (ix c 12) = o2 := by
  unfold A_end1 A_uses
  rw [pk_un (ix_j (by decide)), pk_un (ix_g (by decide)), pk_un (ix_g (by decide)), pk_us]
