/-! The reference: ask, cost, forget, bound, rememberedOf, count, undo. -/
theorem j_tl {σ : Type} {X : rcX} {Wd : σ → Heap → Prop} {A : Nat → Prop} {Q : State → Prop} {pc : Nat} {l : List (Nat × Value)} {st : List Value} {v : σ} {x : Value} (k : rcG X Wd A Q pc l (x :: st) v) : rcG X Wd A Q pc l ((some x).toList ++ st) v := k
/-- an answer, the state's row, the history's row and the number of states in it, behind a call; the text stays -/
def KM (v : rcM) (a : Int32) (f p : Nat → Int32) (n : Nat) : Option Value → rcM → Prop := fun r u => r = some (.int a) ∧ u 1 = f ∧ u 3 = p ∧ u 0 3 = nI n ∧ u 4 = v 4 ∧ u 0 5 = v 0 5
abbrev rcS : Type := Int32 × (Nat → Int32) × (Nat → Int32) × Nat
def KQ (v : rcM) (q : rcS) : Option Value → rcM → Prop := KM v q.1 q.2.1 q.2.2.1 q.2.2.2
def H_act (n : Nat) (b p : Nat → Int32) : (Nat → Int32) × Nat := if n = 4 then (put4 158 3 b (sh4 474 p), 4) else (put4 158 n b p, n + 1)
/-- a change: g is the new state, f the one before -/
def S_act (a : Int32) (f g p : Nat → Int32) (n : Nat) : rcS := (a, g, (H_act n f p).1, (H_act n f p).2)
def S_no (a : Int32) (f p : Nat → Int32) (n : Nat) : rcS := (a, f, p, n)
theorem put4_b {t m : Nat} {b b' p : Nat → Int32} (h : ∀ k, k < t → b k = b' k) : put4 t m b p = put4 t m b' p := by
  funext k
  unfold put4
  by_cases e : 158 * m ≤ k ∧ k < 158 * m + t
  · rw [if_pos e, if_pos e]
    exact h _ (by omega)
  · rw [if_neg e, if_neg e]
/-- what acted() leaves -/
theorem acted_KM {v w : rcM} {x : Int32} {n : Nat} {f : Nat → Int32} (hx : ¬ x ≤ -2000000001) (h2 : ∀ k, k < 158 → w 2 k = f k) (h3 : w 3 = v 3) (h4 : w 4 = v 4) (h5 : w 0 5 = v 0 5) : KQ v (S_act x f (w 1) (v 3) n) (some (.int x)) (M_acted n x w) := by
  unfold M_acted M_act
  rw [if_neg hx]
  unfold KQ KM S_act H_act
  by_cases e : n = 4
  · rw [if_pos e, if_pos e]
    unfold M_act1 M_act0
    refine ⟨rfl, ?_, ?_, ?_, ?_, ?_⟩
    · rw [rcu_ne (by decide), rcr_n (by decide), rcu_ne (by decide), rcr_n (by decide)]
    · rw [rcu_ne (by decide), rcr_s, rcu_ne (by decide), rcr_n (by decide), rcu_ne (by decide), rcr_s, h3]
      exact put4_b h2
    · rw [rcu_self]
    · rw [rcu_ne (by decide), rcr_n (by decide), rcu_ne (by decide), rcr_n (by decide)]; exact h4
    · rw [rcu_k (by decide), rcr_n (by decide), rcu_k (by decide), rcr_n (by decide)]; exact h5
  · rw [if_neg e, if_neg e]
    unfold M_act1
    refine ⟨rfl, ?_, ?_, ?_, ?_, ?_⟩
    · rw [rcu_ne (by decide), rcr_n (by decide)]
    · rw [rcu_ne (by decide), rcr_s, h3]
      exact put4_b h2
    · rw [rcu_self]
    · rw [rcu_ne (by decide), rcr_n (by decide)]; exact h4
    · rw [rcu_k (by decide), rcr_n (by decide)]; exact h5
theorem cp_lt {n k : Nat} {f g : Nat → Int32} (h : k < n) : cp n f g k = f k := if_pos h
theorem pos_gt {x : Int32} (h : 0 ≤ x.toInt) : ¬ x ≤ -2000000001 := by
  rw [Int32.le_iff_toInt_le]
  have e : (-2000000001 : Int32).toInt = -2000000001 := by decide
  rw [e]
  omega
def S_ask (f p : Nat → Int32) (n : Nat) (c : Int32) : rcS := if 0 ≤ c ∧ c ≤ 9 then (match A_look 11 [] f (cN c) with
  | none => S_no (-2000000002) f p n
  | some g => S_act (A_ans g (cN c)) f (A_trim 10 g) p n) else S_no (-2000000001) f p n
def S_cost (f p : Nat → Int32) (n : Nat) (c w : Int32) : rcS := if (0 ≤ c ∧ c ≤ 9) ∧ (0 ≤ w ∧ w ≤ 2) then (match A_look 11 [] f (cN c) with
  | none => S_no (-2000000002) f p n
  | some g => S_no (g (1 + cN w) - f (1 + cN w)) f p n) else S_no (-2000000001) f p n
def S_forget (f p : Nat → Int32) (n : Nat) (c : Int32) : rcS := if 0 ≤ c ∧ c ≤ 9 then (if f (ix (cN c) 6) = 0 then S_no (-2000000002) f p n else S_act (remI (A_drop f (cN c)) 10) f (A_drop f (cN c)) p n) else S_no (-2000000001) f p n
def S_bound (f p : Nat → Int32) (n : Nat) (b : Int32) : rcS := if 0 ≤ b ∧ b ≤ 10 then S_act (f 5) f (upd f 5 b) p n else S_no (-2000000001) f p n
theorem KM_no {v u : rcM} {a : Int32} {n : Nat} (h1 : u 1 = v 1) (h3 : u 3 = v 3) (hn : u 0 3 = nI n) (h4 : u 4 = v 4) (h5 : u 0 5 = v 0 5) : KQ v (S_no a (v 1) (v 3) n) (some (.int a)) u := ⟨rfl, h1, h3, hn, h4, h5⟩
theorem okA_gt {x : Int32} (h : okA x) : ¬ x ≤ -2000000001 := by
  rw [Int32.le_iff_toInt_le]
  rcases h with rfl | h
  · decide
  · have e : (-2000000001 : Int32).toInt = -2000000001 := by decide
    rw [e]
    omega
/-- how many of the first k cells' answers were used less recently than cell i's -/
def plc (f : Nat → Int32) (i : Nat) : Nat → Int32
  | 0 => 0
  | k + 1 => plc f i k + (if f (ix k 6) = 1 ∧ f (ix k 13) < f (ix i 13) then 1 else 0)
def S_remOf (f p : Nat → Int32) (n : Nat) (c w : Int32) : rcS := if (0 ≤ c ∧ c ≤ 9) ∧ (0 ≤ w ∧ w ≤ 6) then
    (if f (ix (cN c) 6) = 0 ∨ ((4 ≤ w ∧ w ≤ 5) ∧ f (ix (cN c) 10) ≤ w - 4) then S_no (-2000000004) f p n
     else if w = 6 then S_no (plc f (cN c) 10) f p n else S_no (f (ix (cN c) (7 + cN w))) f p n) else S_no (-2000000001) f p n
