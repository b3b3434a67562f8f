/-! Sets of numbers as bits; the places of the remembered answers. -/
def orB (P : Nat → Bool) (v : Nat → Nat) : Nat → Nat
  | 0 => 0
  | k + 1 => orB P v k ||| (if P k = true then 2 ^ v k else 0)
theorem orB_bit {P : Nat → Bool} {v : Nat → Nat} : ∀ k j, (orB P v k).testBit j = true ↔ ∃ i, i < k ∧ P i = true ∧ v i = j := by
  intro k
  induction k with
  | zero =>
    intro j
    unfold orB
    rw [Nat.zero_testBit]
    exact ⟨fun z => (by cases z), fun ⟨i, hi, _⟩ => absurd hi (Nat.not_lt_zero i)⟩
  | succ k ih =>
    intro j
    unfold orB
    rw [Nat.testBit_or, Bool.or_eq_true, ih j]
    by_cases hp : P k = true
    · rw [if_pos hp, Nat.testBit_two_pow, decide_eq_true_iff]
      constructor
      · rintro (⟨i, hi, h⟩ | e)
        · exact ⟨i, by omega, h⟩
        · exact ⟨k, by omega, hp, e⟩
      · rintro ⟨i, hi, h1, h2⟩
        by_cases e : i = k
        · subst e; exact Or.inr h2
        · exact Or.inl ⟨i, by omega, h1, h2⟩
    · rw [if_neg hp, Nat.zero_testBit]
      constructor
      · rintro (⟨i, hi, h⟩ | e)
        · exact ⟨i, by omega, h⟩
        · cases e
      · rintro ⟨i, hi, h1, h2⟩
        by_cases e : i = k
        · subst e; exact absurd h1 hp
        · exact Or.inl ⟨i, by omega, h1, h2⟩
theorem orB_lt {P : Nat → Bool} {v : Nat → Nat} {m : Nat} : ∀ k, (∀ i, i < k → P i = true → v i < m) → orB P v k < 2 ^ m := by
  intro k
  induction k with
  | zero => intro _; exact Nat.two_pow_pos m
  | succ k ih =>
    intro h
    unfold orB
    refine Nat.or_lt_two_pow (ih (fun i hi => h i (by omega))) ?_
    split
    · rename_i hp
      exact Nat.pow_lt_pow_right (by decide) (h k (by omega) hp)
    · exact Nat.two_pow_pos m
noncomputable def WN (f : Nat → Int32) (x : Int32) (k : Nat) : Nat := orB (fun i => decide (¬ one f i x = 0)) (fun i => i) k
theorem wh_N {f : Nat → Int32} {x : Int32} : ∀ k, k ≤ 10 → whF f x k = nI (WN f x k) := by
  intro k
  induction k with
  | zero => intro _; rfl
  | succ k ih =>
    intro hk
    show whF f x k ||| (if one f k x = 0 then 0 else bitI (nI k)) = nI (WN f x k ||| (if decide (¬ one f k x = 0) = true then 2 ^ k else 0))
    rw [ih (by omega), ← nI_or]
    by_cases h : one f k x = 0
    · rw [if_pos h, if_neg (by rw [decide_eq_true_iff]; exact fun z => z h)]; rfl
    · rw [if_neg h, if_pos (decide_eq_true h), bit_nI k (by omega)]
theorem WN_lt {f : Nat → Int32} {x : Int32} : WN f x 10 < 1024 := orB_lt (m := 10) 10 (fun i hi _ => hi)
theorem WN_bit {f : Nat → Int32} {x : Int32} {c : Nat} (hc : c < 10) : (WN f x 10).testBit c = true ↔ ¬ one f c x = 0 := by
  unfold WN
  rw [orB_bit]
  constructor
  · rintro ⟨i, hi, h, e⟩
    have e : i = c := e
    subst e
    exact of_decide_eq_true h
  · intro h
    exact ⟨c, hc, decide_eq_true h, rfl⟩
theorem S_wh {f : Nat → Int32} {x : Int32} (h : 0 ≤ x ∧ x ≤ 4) : S_which f x = nI (WN f x 10) := by
  unfold S_which
  rw [if_pos h, wh_N 10 (by decide)]
theorem bit_of : ∀ s, s < 1024 → ∀ c, c < 10 → (nI s >>> (nI c &&& 31)) &&& 1 = if s.testBit c = true then 1 else 0 := by decide +kernel
theorem wh_1 {f : Nat → Int32} {x : Int32} {c : Nat} (hc : c < 10) (h : ¬ one f c x = 0) : (nI (WN f x 10) >>> (nI c &&& 31)) &&& 1 = 1 := by
  rw [bit_of _ WN_lt c hc, if_pos ((WN_bit hc).mpr h)]
theorem wh_0 {f : Nat → Int32} {x : Int32} {c : Nat} (hc : c < 10) (h : one f c x = 0) : (nI (WN f x 10) >>> (nI c &&& 31)) &&& 1 = 0 := by
  rw [bit_of _ WN_lt c hc, if_neg (fun z => (WN_bit hc).mp z h)]
theorem nI_and (a b : Nat) : nI a &&& nI b = nI (a &&& b) := by
  apply Int32.toBitVec_inj.mp
  rw [Int32.toBitVec_and]
  show BitVec.ofNat 32 a &&& BitVec.ofNat 32 b = BitVec.ofNat 32 (a &&& b)
  rw [BitVec.ofNat_and]
/-- no cell comes to a ring and gives "too great" -/
theorem ring_great {f : Nat → Int32} : nI (WN f 3 10) &&& nI (WN f 4 10) = 0 := by
  rw [nI_and]
  have e : WN f 3 10 &&& WN f 4 10 = 0 := by
    apply Nat.eq_of_testBit_eq
    intro j
    rw [Nat.testBit_and, Nat.zero_testBit]
    by_cases hj : j < 10
    · cases e3 : (WN f 3 10).testBit j with
      | false => rfl
      | true =>
        cases e4 : (WN f 4 10).testBit j with
        | false => rfl
        | true =>
          exfalso
          have a := (WN_bit hj).mp e3
          have b := (WN_bit hj).mp e4
          rw [one_3] at a
          unfold one at b
          rw [if_neg (by decide), if_neg (by decide), if_neg (by decide), if_neg (by decide)] at b
          cases q : EV f j with
          | none => rw [q] at b; exact b rfl
          | some z => rw [q] at a; exact a rfl
    · rw [Nat.testBit_lt_two_pow (Nat.lt_of_lt_of_le (WN_lt (f := f) (x := 3)) (Nat.pow_le_pow_right (show 0 < 2 by decide) (show 10 ≤ j by omega)))]
      rfl
  rw [e]
  rfl
/-- a remembered answer's place, as a number -/
def rk (f : Nat → Int32) (i : Nat) : Nat → Nat
  | 0 => 0
  | k + 1 => rk f i k + (if f (ix k 6) = 1 ∧ f (ix k 13) < f (ix i 13) then 1 else 0)
theorem plc_rk {f : Nat → Int32} {i : Nat} : ∀ k, plc f i k = nI (rk f i k) := by
  intro k
  induction k with
  | zero => rfl
  | succ k ih =>
    unfold plc rk
    rw [ih]
    split
    · exact nI_1 _
    · show nI _ + nI 0 = _; rw [nI_add]
theorem rk_lt {f : Nat → Int32} {i : Nat} (h6 : f (ix i 6) = 1) : ∀ k, rk f i k + (if i < k then 1 else 0) ≤ cntH f k := by
  intro k
  induction k with
  | zero => exact Nat.le_refl _
  | succ k ih =>
    unfold rk cntH
    by_cases e : i = k
    · subst e
      rw [if_neg (show ¬ i < i by omega)] at ih
      rw [if_pos (show i < i + 1 by omega), if_pos h6, if_neg (fun z => Int32.lt_irrefl z.2)]
      omega
    · have e2 : (if i < k + 1 then 1 else 0 : Nat) = (if i < k then 1 else 0) := by split <;> split <;> omega
      rw [e2]
      by_cases hk : f (ix k 6) = 1
      · rw [if_pos hk]
        split <;> omega
      · rw [if_neg hk, if_neg (fun z => hk z.1)]
        omega
theorem rk_mono {f : Nat → Int32} {i j : Nat} (h6 : f (ix i 6) = 1) (hl : f (ix i 13) < f (ix j 13)) : ∀ k, rk f i k + (if i < k then 1 else 0) ≤ rk f j k := by
  intro k
  induction k with
  | zero => exact Nat.le_refl _
  | succ k ih =>
    unfold rk
    by_cases e : i = k
    · subst e
      rw [if_neg (show ¬ i < i by omega)] at ih
      rw [if_pos (show i < i + 1 by omega), if_neg (fun z => Int32.lt_irrefl z.2), if_pos ⟨h6, hl⟩]
      omega
    · have e2 : (if i < k + 1 then 1 else 0 : Nat) = (if i < k then 1 else 0) := by split <;> split <;> omega
      rw [e2]
      by_cases hk : f (ix k 6) = 1 ∧ f (ix k 13) < f (ix i 13)
      · rw [if_pos hk, if_pos (show f (ix k 6) = 1 ∧ f (ix k 13) < f (ix j 13) from ⟨hk.1, Int32.lt_trans hk.2 hl⟩)]
        omega
      · rw [if_neg hk]
        omega
theorem rk_ne {b : Int} {f : Nat → Int32} {i j : Nat} (a : Ct b f) (hi : i < 10) (hj : j < 10) (hij : i ≠ j) (h6 : f (ix i 6) = 1) (k6 : f (ix j 6) = 1) : rk f i 10 ≠ rk f j 10 := by
  have hn := a.2.2.2.2.2.2 i j hi hj hij h6 k6
  rcases Int32.lt_or_lt_of_ne hn with h | h
  · have q := rk_mono h6 h 10
    rw [if_pos hi] at q
    omega
  · have q := rk_mono k6 h 10
    rw [if_pos hj] at q
    omega
/-- the places of the first k cells' answers -/
def RKL (f : Nat → Int32) : Nat → List Nat
  | 0 => []
  | k + 1 => if f (ix k 6) = 1 then rk f k 10 :: RKL f k else RKL f k
theorem RKL_mem {f : Nat → Int32} {x : Nat} : ∀ k, x ∈ RKL f k ↔ ∃ i, i < k ∧ f (ix i 6) = 1 ∧ rk f i 10 = x := by
  intro k
  induction k with
  | zero => exact ⟨fun z => (by cases z), fun ⟨i, hi, _⟩ => absurd hi (Nat.not_lt_zero i)⟩
  | succ k ih =>
    unfold RKL
    by_cases h : f (ix k 6) = 1
    · rw [if_pos h, List.mem_cons, ih]
      constructor
      · rintro (e | ⟨i, hi, q⟩)
        · exact ⟨k, by omega, h, e.symm⟩
        · exact ⟨i, by omega, q⟩
      · rintro ⟨i, hi, q1, q2⟩
        by_cases e : i = k
        · subst e; exact Or.inl q2.symm
        · exact Or.inr ⟨i, by omega, q1, q2⟩
    · rw [if_neg h, ih]
      constructor
      · rintro ⟨i, hi, q⟩
        exact ⟨i, by omega, q⟩
      · rintro ⟨i, hi, q1, q2⟩
        by_cases e : i = k
        · subst e; exact absurd q1 h
        · exact ⟨i, by omega, q1, q2⟩
theorem RKL_len {f : Nat → Int32} : ∀ k, (RKL f k).length = cntH f k := by
  intro k
  induction k with
  | zero => rfl
  | succ k ih =>
    unfold RKL cntH
    split
    · rw [List.length_cons, ih]
    · rw [ih]; rfl
theorem RKL_nodup {b : Int} {f : Nat → Int32} (a : Ct b f) : ∀ k, k ≤ 10 → (RKL f k).Nodup := by
  intro k
  induction k with
  | zero => intro _; exact List.nodup_nil
  | succ k ih =>
    intro hk
    unfold RKL
    split
    · rename_i h
      refine List.nodup_cons.mpr ⟨fun z => ?_, ih (by omega)⟩
      obtain ⟨i, hi, q1, q2⟩ := (RKL_mem k).mp z
      exact rk_ne a (by omega) (by omega) (by omega) q1 h q2
    · exact ih (by omega)
def PL (f : Nat → Int32) (k : Nat) : Nat := orB (fun i => decide (f (ix i 6) = 1)) (fun i => rk f i 10) k
/-- the places are told once each -/
theorem PL_all {b : Int} {f : Nat → Int32} (a : Ct b f) : PL f 10 = 2 ^ cntH f 10 - 1 := by
  have lt : ∀ i, i < 10 → f (ix i 6) = 1 → rk f i 10 < cntH f 10 := fun i hi h => by
    have q := rk_lt h 10
    rw [if_pos hi] at q
    omega
  apply Nat.eq_of_testBit_eq
  intro j
  rw [Nat.testBit_two_pow_sub_one]
  by_cases hj : j < cntH f 10
  · rw [decide_eq_true hj]
    unfold PL
    rw [orB_bit]
    by_cases hm : j ∈ RKL f 10
    · obtain ⟨i, hi, q1, q2⟩ := (RKL_mem 10).mp hm
      exact ⟨i, hi, decide_eq_true q1, q2⟩
    · exfalso
      have q := nodup_le (cntH f 10) (j :: RKL f 10) (List.nodup_cons.mpr ⟨hm, RKL_nodup a 10 (by decide)⟩) (fun x hx => by
        rcases List.mem_cons.mp hx with rfl | hx
        · exact hj
        · obtain ⟨i, hi, q1, q2⟩ := (RKL_mem 10).mp hx
          rw [← q2]
          exact lt i hi q1)
      rw [List.length_cons, RKL_len] at q
      omega
  · rw [decide_eq_false hj]
    cases e : (PL f 10).testBit j with
    | false => rfl
    | true =>
      exfalso
      unfold PL at e
      obtain ⟨i, hi, q1, q2⟩ := (orB_bit 10 j).mp e
      have := lt i hi (of_decide_eq_true q1)
      have q2 : rk f i 10 = j := q2
      omega
theorem rk_10 {f : Nat → Int32} {i : Nat} (hi : i < 10) (h6 : f (ix i 6) = 1) : rk f i 10 < 10 := by
  have q := rk_lt h6 10
  rw [if_pos hi] at q
  have := cntH_le (f := f) 10
  omega
theorem PL_1 {f : Nat → Int32} {i : Nat} (hi : i < 10) (h6 : f (ix i 6) = 1) : nI (PL f i) ||| (1 <<< (plc f i 10 &&& 31)) = nI (PL f (i + 1)) := by
  show _ = nI (PL f i ||| (if decide (f (ix i 6) = 1) = true then 2 ^ rk f i 10 else 0))
  rw [if_pos (decide_eq_true h6), ← nI_or, ← bit_nI _ (rk_10 hi h6), plc_rk]
  rfl
theorem PL_0 {f : Nat → Int32} {i : Nat} (h6 : ¬ f (ix i 6) = 1) : nI (PL f i) ||| 0 = nI (PL f (i + 1)) := by
  show _ = nI (PL f i ||| (if decide (f (ix i 6) = 1) = true then 2 ^ rk f i 10 else 0))
  rw [if_neg (fun z => h6 (of_decide_eq_true z)), Nat.or_zero, Int32.or_zero]
theorem two_many : ∀ m, m ≤ 10 → (1 <<< (nI m &&& 31)) - 1 = nI (2 ^ m - 1) := by decide +kernel
