/-! The two systems' shapes, and rows over them. -/
def shC : rcH := fun id => match id with
  | 0 => .inl (5, [9, 31, 3, 5, 8])
  | 1 => .inl (2, [4, 0])
  | 2 => .inr (2, 4)
  | 3 => .inl (4, [6, 0, 0, 0, 7])
  | 4 => .inr (1, 60)
  | 5 => .inl (1, [0, 0, 0, 0, 0])
  | 6 => .inl (1, [0, 0, 0, 0, 0])
  | n + 7 => if n % 22 = 0 then .inl (3, [n + 10, 0, 0, 0, 0, 0, 0, 0, 0, 0]) else if n % 22 = 1 then .inr (3, 10) else if n % 22 < 12 then .inl (0, [n + 19, 0, 1, 0, 0, 0, 0, 1]) else .inl (1, [0, 0, 0, 0, 0])
/-- the ids of a State's parts -/
abbrev sid (k : Nat) : Nat := 22 * k + 7
abbrev aid (k : Nat) : Nat := 22 * k + 8
abbrev cid (k i : Nat) : Nat := i + (22 * k + 9)
abbrev did (k i : Nat) : Nat := i + (22 * k + 9) + 10
theorem sh_st {k : Nat} (hk : k < 6) : sid k < 139 ∧ shC (sid k) = .inl (3, [(22 * k + 8) + 2, 0, 0, 0, 0, 0, 0, 0, 0, 0]) := by
  refine ⟨by show 22 * k + 7 < 139; omega, ?_⟩
  show (if (22 * k) % 22 = 0 then _ else _) = _
  rw [if_pos (by omega)]
theorem sh_arr {k : Nat} (hk : k < 6) : aid k < 139 ∧ shC (aid k) = .inr (3, 10) := by
  refine ⟨by show 22 * k + 8 < 139; omega, ?_⟩
  show (if (22 * k + 1) % 22 = 0 then _ else if (22 * k + 1) % 22 = 1 then _ else _) = _
  rw [if_neg (by omega), if_pos (by omega)]
theorem sh_cell {k i : Nat} (hk : k < 6) (hi : i < 10) : cid k i < 139 ∧ shC (cid k i) = .inl (0, [(cid k i + 10) + 2, 0, 1, 0, 0, 0, 0, 1]) := by
  refine ⟨by show i + (22 * k + 9) < 139; omega, ?_⟩
  show (if (i + (22 * k + 2)) % 22 = 0 then _ else if (i + (22 * k + 2)) % 22 = 1 then _ else if (i + (22 * k + 2)) % 22 < 12 then _ else _) = _
  rw [if_neg (by omega), if_neg (by omega), if_pos (by omega)]
  have e : i + (22 * k + 2) + 19 = cid k i + 10 + 2 := by show _ = i + (22 * k + 9) + 10 + 2; omega
  exact congrArg (fun z => Sum.inl (0, [z, 0, 1, 0, 0, 0, 0, 1])) e
theorem sh_def {k i : Nat} (hk : k < 6) (hi : i < 10) : did k i < 139 ∧ shC (did k i) = .inl (1, [0, 0, 0, 0, 0]) := by
  refine ⟨by show i + (22 * k + 9) + 10 < 139; omega, ?_⟩
  show (if (i + (22 * k + 2) + 10) % 22 = 0 then _ else if (i + (22 * k + 2) + 10) % 22 = 1 then _ else if (i + (22 * k + 2) + 10) % 22 < 12 then _ else _) = _
  rw [if_neg (by omega), if_neg (by omega), if_neg (by omega)]
section FG
variable {sh : rcH} {N : Nat} {Y : rcY} {X : rcX} {cc : ByteArray} {own : String} {rt : Option FieldType} {d : Nat} {K : Option Value → rcM → Prop} {pc : Nat} {l : List (Nat × Value)} {st : List Value} {v : rcM}
theorem j_geti (F : rcF sh N Y X cc own rt d) {ci k index id Nf : Nat} {ks : List Nat} {C : String} {T : u_T} (hin : ∀ w ∈ u_ws C T Nf, w ∈ lw_g) (hc : vwCl[ci]? = some (C, T, Nf)) (hk : k < Nf)
    (hl : Cond.fieldLink own index (T k).1 (T k).2.1 (T k).2.2.1 ∈ lw_g) (hs : id < N ∧ sh id = .inl (ci, ks)) (hkd : ks[k]? = some 0) (hdg : decode cc pc = .ok (.getfield index, 3))
    (kk : rcJ sh N Y X K (pc + 3) l (.int (v id k) :: st) v) : rcJ sh N Y X K pc l (.ref (Y.2.1 id) :: st) v := j_get F hin hc hk hl hs hkd rfl hdg kk
theorem j_getz (F : rcF sh N Y X cc own rt d) {ci k index id Nf : Nat} {ks : List Nat} {C : String} {T : u_T} (hin : ∀ w ∈ u_ws C T Nf, w ∈ lw_g) (hc : vwCl[ci]? = some (C, T, Nf)) (hk : k < Nf)
    (hl : Cond.fieldLink own index (T k).1 (T k).2.1 (T k).2.2.1 ∈ lw_g) (hs : id < N ∧ sh id = .inl (ci, ks)) (hkd : ks[k]? = some 1) (hdg : decode cc pc = .ok (.getfield index, 3))
    (kk : rcJ sh N Y X K (pc + 3) l (.int (rcb (v id k)) :: st) v) : rcJ sh N Y X K pc l (.ref (Y.2.1 id) :: st) v := j_get F hin hc hk hl hs hkd rfl hdg kk
theorem j_getr (F : rcF sh N Y X cc own rt d) {ci k index id j Nf : Nat} {ks : List Nat} {C : String} {T : u_T} (hin : ∀ w ∈ u_ws C T Nf, w ∈ lw_g) (hc : vwCl[ci]? = some (C, T, Nf)) (hk : k < Nf)
    (hl : Cond.fieldLink own index (T k).1 (T k).2.1 (T k).2.2.1 ∈ lw_g) (hs : id < N ∧ sh id = .inl (ci, ks)) (hkd : ks[k]? = some (j + 2)) (hdg : decode cc pc = .ok (.getfield index, 3))
    (kk : rcJ sh N Y X K (pc + 3) l (.ref (Y.2.1 j) :: st) v) : rcJ sh N Y X K pc l (.ref (Y.2.1 id) :: st) v := j_get F hin hc hk hl hs hkd rfl hdg kk
end FG
/-- a truth value as the machine has it -/
def b2 (p : Prop) [Decidable p] : Int32 := if p then 1 else 0
theorem b2_01 (p : Prop) [Decidable p] : b2 p = 0 ∨ b2 p = 1 := by unfold b2; split <;> simp
theorem b2_t {p : Prop} [Decidable p] (h : p) : b2 p = 1 := if_pos h
theorem b2_f {p : Prop} [Decidable p] (h : ¬ p) : b2 p = 0 := if_neg h
theorem b2_0 {p : Prop} [Decidable p] : b2 p = 0 ↔ ¬ p := by unfold b2; split <;> simp_all
theorem b2_1 {p : Prop} [Decidable p] : b2 p = 1 ↔ p := by unfold b2; split <;> simp_all
/-- a whole row -/
def rcr (v : rcM) (a : Nat) (f : Nat → Int32) : rcM := fun b => if b = a then f else v b
theorem rcr_s {v : rcM} {a : Nat} {f : Nat → Int32} : rcr v a f a = f := by simp [rcr]
theorem rcr_n {v : rcM} {a b : Nat} {f : Nat → Int32} (h : b ≠ a) : rcr v a f b = v b := by simp [rcr, h]
theorem rcr_rcr {v : rcM} {a : Nat} {f g : Nat → Int32} : rcr (rcr v a f) a g = rcr v a g := by funext b; by_cases h : b = a <;> simp [rcr, h]
theorem rcu_r {v : rcM} {a k : Nat} {x : Int32} : rcu v a k x = rcr v a (upd (v a) k x) := by
  funext b
  by_cases h : b = a
  · subst h; rw [rcr_s, rcu_row]
  · rw [rcr_n h, rcu_ne h]
theorem rcr_self {v : rcM} {a : Nat} : rcr v a (v a) = v := by funext b; by_cases h : b = a <;> simp [rcr, h]
/-- a cell's number -/
theorem cell_of {c : Int32} (h : 0 ≤ c ∧ c ≤ 9) : ∃ i : Nat, i < 10 ∧ c = nI i := by
  obtain ⟨j, hj, he⟩ := nI_of2 (n := 9) (M := 9) rfl (Int32.not_lt.mpr h.1) h.2
  exact ⟨j, by omega, he⟩
theorem nI_lit (n : Nat) : (OfNat.ofNat n : Int32) = nI n := rfl
theorem nI_in9 {i : Nat} (h : i < 10) : 0 ≤ nI i ∧ nI i ≤ 9 := ⟨nI_pos' (by omega), nI_le (a := i) (b := 9) (by omega) (by decide)⟩
theorem rc_X5_init : rcC yX5_init 0 := ⟨by decide +kernel, by decide +kernel, by decide +kernel⟩
theorem rc_X3_init : rcC yX3_init 0 := ⟨by decide +kernel, by decide +kernel, by decide +kernel⟩
theorem rc_X0_init : rcC yX0_init 0 := ⟨by decide +kernel, by decide +kernel, by decide +kernel⟩
theorem rc_X1_init : rcC yX1_init 0 := ⟨by decide +kernel, by decide +kernel, by decide +kernel⟩
theorem rc_X2_init : rcC yX2_init 0 := ⟨by decide +kernel, by decide +kernel, by decide +kernel⟩
theorem rc_X4_init : rcC yX4_init 0 := ⟨by decide +kernel, by decide +kernel, by decide +kernel⟩
theorem rc_X5_define : rcC yX5_define 2 := ⟨by decide +kernel, by decide +kernel, by decide +kernel⟩
theorem rc_X5_isCell : rcC yX5_isCell 1 := ⟨by decide +kernel, by decide +kernel, by decide +kernel⟩
theorem rc_X5_isWithin : rcC yX5_isWithin 3 := ⟨by decide +kernel, by decide +kernel, by decide +kernel⟩
theorem rc_X5_isValue : rcC yX5_isValue 1 := ⟨by decide +kernel, by decide +kernel, by decide +kernel⟩
theorem rc_X2_record : rcC yX2_record 1 := ⟨by decide +kernel, by decide +kernel, by decide +kernel⟩
theorem rc_X2_dropOldest : rcC yX2_dropOldest 0 := ⟨by decide +kernel, by decide +kernel, by decide +kernel⟩
theorem rc_X3_copy : rcC yX3_copy 1 := ⟨by decide +kernel, by decide +kernel, by decide +kernel⟩
theorem rc_X0_copy : rcC yX0_copy 1 := ⟨by decide +kernel, by decide +kernel, by decide +kernel⟩
theorem rc_X1_copy : rcC yX1_copy 1 := ⟨by decide +kernel, by decide +kernel, by decide +kernel⟩
theorem rc_X1_setValue : rcC yX1_setValue 1 := ⟨by decide +kernel, by decide +kernel, by decide +kernel⟩
theorem rc_X3_redefine : rcC yX3_redefine 2 := ⟨by decide +kernel, by decide +kernel, by decide +kernel⟩
theorem rc_X1_isLike : rcC yX1_isLike 1 := ⟨by decide +kernel, by decide +kernel, by decide +kernel⟩
theorem rc_X5_formula : rcC yX5_formula 5 := ⟨by decide +kernel, by decide +kernel, by decide +kernel⟩
theorem rc_X5_isKind : rcC yX5_isKind 1 := ⟨by decide +kernel, by decide +kernel, by decide +kernel⟩
theorem rc_X5_isThird : rcC yX5_isThird 2 := ⟨by decide +kernel, by decide +kernel, by decide +kernel⟩
theorem rc_X1_setFormula : rcC yX1_setFormula 4 := ⟨by decide +kernel, by decide +kernel, by decide +kernel⟩
theorem rc_X5_cellOf : rcC yX5_cellOf 2 := ⟨by decide +kernel, by decide +kernel, by decide +kernel⟩
theorem rc_X5_ask : rcC yX5_ask 1 := ⟨by decide +kernel, by decide +kernel, by decide +kernel⟩
theorem rc_X3_lookAt : rcC yX3_lookAt 1 := ⟨by decide +kernel, by decide +kernel, by decide +kernel⟩
theorem rc_X3_look : rcC yX3_look 2 := ⟨by decide +kernel, by decide +kernel, by decide +kernel⟩
theorem rc_X3_bringUpToDate : rcC yX3_bringUpToDate 2 := ⟨by decide +kernel, by decide +kernel, by decide +kernel⟩
theorem rc_X3_workOut : rcC yX3_workOut 2 := ⟨by decide +kernel, by decide +kernel, by decide +kernel⟩
theorem rc_X0_told : rcC yX0_told 0 := ⟨by decide +kernel, by decide +kernel, by decide +kernel⟩
theorem rc_X1_secondFor : rcC yX1_secondFor 1 := ⟨by decide +kernel, by decide +kernel, by decide +kernel⟩
theorem rc_X3_remember : rcC yX3_remember 3 := ⟨by decide +kernel, by decide +kernel, by decide +kernel⟩
theorem rc_X1_give : rcC yX1_give 2 := ⟨by decide +kernel, by decide +kernel, by decide +kernel⟩
theorem rc_X3_lookForChange : rcC yX3_lookForChange 2 := ⟨by decide +kernel, by decide +kernel, by decide +kernel⟩
theorem rc_X3_forgetBeyondBound : rcC yX3_forgetBeyondBound 0 := ⟨by decide +kernel, by decide +kernel, by decide +kernel⟩
theorem rc_X3_rememberedAnswers : rcC yX3_rememberedAnswers 0 := ⟨by decide +kernel, by decide +kernel, by decide +kernel⟩
theorem rc_X3_forgetOldest : rcC yX3_forgetOldest 0 := ⟨by decide +kernel, by decide +kernel, by decide +kernel⟩
theorem rc_X3_forgetAnswer : rcC yX3_forgetAnswer 1 := ⟨by decide +kernel, by decide +kernel, by decide +kernel⟩
theorem rc_X5_fresh : rcC yX5_fresh 1 := ⟨by decide +kernel, by decide +kernel, by decide +kernel⟩
theorem rc_X5_answerAfresh : rcC yX5_answerAfresh 1 := ⟨by decide +kernel, by decide +kernel, by decide +kernel⟩
theorem rc_X3_dropAnswers : rcC yX3_dropAnswers 0 := ⟨by decide +kernel, by decide +kernel, by decide +kernel⟩
theorem rc_X5_forget : rcC yX5_forget 1 := ⟨by decide +kernel, by decide +kernel, by decide +kernel⟩
theorem rc_X5_bound : rcC yX5_bound 1 := ⟨by decide +kernel, by decide +kernel, by decide +kernel⟩
theorem rc_X5_rememberedOf : rcC yX5_rememberedOf 2 := ⟨by decide +kernel, by decide +kernel, by decide +kernel⟩
theorem rc_X3_placeOf : rcC yX3_placeOf 1 := ⟨by decide +kernel, by decide +kernel, by decide +kernel⟩
theorem rc_X5_which : rcC yX5_which 1 := ⟨by decide +kernel, by decide +kernel, by decide +kernel⟩
theorem rc_X5_isOneOf : rcC yX5_isOneOf 2 := ⟨by decide +kernel, by decide +kernel, by decide +kernel⟩
theorem rc_X5_count : rcC yX5_count 1 := ⟨by decide +kernel, by decide +kernel, by decide +kernel⟩
theorem rc_X5_undo : rcC yX5_undo 0 := ⟨by decide +kernel, by decide +kernel, by decide +kernel⟩
theorem rc_X2_restoreLatestTo : rcC yX2_restoreLatestTo 1 := ⟨by decide +kernel, by decide +kernel, by decide +kernel⟩
theorem rc_X5_type : rcC yX5_type 1 := ⟨by decide +kernel, by decide +kernel, by decide +kernel⟩
theorem rc_X4_append : rcC yX4_append 1 := ⟨by decide +kernel, by decide +kernel, by decide +kernel⟩
theorem rc_X5_clearText : rcC yX5_clearText 0 := ⟨by decide +kernel, by decide +kernel, by decide +kernel⟩
theorem rc_X4_empty : rcC yX4_empty 0 := ⟨by decide +kernel, by decide +kernel, by decide +kernel⟩
theorem rc_X5_fault : rcC yX5_fault 1 := ⟨by decide +kernel, by decide +kernel, by decide +kernel⟩
theorem rc_X4_findFault : rcC yX4_findFault 0 := ⟨by decide +kernel, by decide +kernel, by decide +kernel⟩
theorem rc_X4_rewind : rcC yX4_rewind 0 := ⟨by decide +kernel, by decide +kernel, by decide +kernel⟩
theorem rc_X4_hasMore : rcC yX4_hasMore 0 := ⟨by decide +kernel, by decide +kernel, by decide +kernel⟩
theorem rc_X4_readDefinition : rcC yX4_readDefinition 0 := ⟨by decide +kernel, by decide +kernel, by decide +kernel⟩
theorem rc_X4_readLetter : rcC yX4_readLetter 0 := ⟨by decide +kernel, by decide +kernel, by decide +kernel⟩
theorem rc_X4_character : rcC yX4_character 0 := ⟨by decide +kernel, by decide +kernel, by decide +kernel⟩
theorem rc_X4_readSign : rcC yX4_readSign 1 := ⟨by decide +kernel, by decide +kernel, by decide +kernel⟩
theorem rc_X4_readNumber : rcC yX4_readNumber 0 := ⟨by decide +kernel, by decide +kernel, by decide +kernel⟩
theorem rc_X4_readFormula : rcC yX4_readFormula 1 := ⟨by decide +kernel, by decide +kernel, by decide +kernel⟩
theorem rc_X4_readOperator : rcC yX4_readOperator 0 := ⟨by decide +kernel, by decide +kernel, by decide +kernel⟩
theorem rc_X4_kindOf : rcC yX4_kindOf 1 := ⟨by decide +kernel, by decide +kernel, by decide +kernel⟩
theorem rc_X5_play : rcC yX5_play 0 := ⟨by decide +kernel, by decide +kernel, by decide +kernel⟩
