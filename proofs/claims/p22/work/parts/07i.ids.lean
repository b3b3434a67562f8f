/-! The whole class, by ids. -/
def p22 (r : Nat) : Nat := if r = 0 then 0 else if r = 1 then 1 else if r < 12 then 2 * (r - 2) + 1 + 1 else 2 * (r - 12) + 1 + 1 + 1
def bA (t : sT) (r : Nat) : Nat := if r = 0 then t.1 else if r = 1 then t.2.1 else if r < 12 then t.2.2.2.1 (r - 2) else t.2.2.2.2 (r - 12)
theorem bA_c {t : sT} {i : Nat} (h : i < 10) : bA t (i + 2) = t.2.2.2.1 i := by
  unfold bA
  rw [if_neg (by omega), if_neg (by omega), if_pos (by omega), Nat.add_sub_cancel]
theorem bA_d {t : sT} {i : Nat} : bA t (i + 12) = t.2.2.2.2 i := by
  unfold bA
  rw [if_neg (by omega), if_neg (by omega), if_neg (by omega), Nat.add_sub_cancel]
theorem p22_c {i : Nat} (h : i < 10) : p22 (i + 2) = 2 * i + 1 + 1 := by
  unfold p22
  rw [if_neg (by omega), if_neg (by omega), if_pos (by omega), Nat.add_sub_cancel]
theorem p22_d {i : Nat} : p22 (i + 12) = 2 * i + 1 + 1 + 1 := by
  unfold p22
  rw [if_neg (by omega), if_neg (by omega), if_neg (by omega), Nat.add_sub_cancel]
theorem p22_lt {r : Nat} (h : r < 22) : p22 r < 22 := by
  unfold p22
  split
  · decide
  · split
    · decide
    · split <;> omega
theorem stF_c {t : sT} {i : Nat} (h : i < 10) : (stF t)[p22 (i + 2)]? = some (bA t (i + 2), eC (t.2.2.2.2 i)) := by
  rw [p22_c h, bA_c h]
  show (pcd t.2.2.2.1 t.2.2.2.2 10)[2 * i]? = _
  exact (pcd_at 10 i h).1
theorem stF_d {t : sT} {i : Nat} (h : i < 10) : (stF t)[p22 (i + 12)]? = some (bA t (i + 12), eD) := by
  rw [p22_d, bA_d]
  show (pcd t.2.2.2.1 t.2.2.2.2 10)[2 * i + 1]? = _
  exact (pcd_at 10 i h).2
/-- the states' cells, in their order: present, trial, history -/
def mT (t0 t1 : sT) (t : Nat → sT) : Nat → sT := fun k => match k with
  | 0 => t0
  | 1 => t1
  | k + 2 => t k
def mB (k : Nat) : Nat := match k with
  | 0 => 1
  | 1 => 23
  | k + 2 => 22 * k + 47
theorem hiF_len {h b : Nat} {cB : ClassId} {t : Nat → sT} : (hiF h b cB t 4).length = 90 := by
  show (hpl t 4).length + 1 + 1 = 90
  rw [hpl_len]
section MN
variable {h0 : Nat} {t0 t1 : sT} {h b : Nat} {cB : ClassId} {t : Nat → sT} {x ch d : Nat} {cC : ClassId} {g : Nat}
theorem mn_rest {n : Nat} : (mnF h0 t0 t1 h b cB t x ch d cC g)[n + 1]? = ((((stF t0 ++ stF t1) ++ hiF h b cB t 4) ++ txF x ch d cC) ++ [(g, eD)])[n]? := rfl
theorem mn_hi {n : Nat} (hn : n < 90) : (mnF h0 t0 t1 h b cB t x ch d cC g)[n + 45]? = (hiF h b cB t 4)[n]? := by
  show (mnF h0 t0 t1 h b cB t x ch d cC g)[n + 44 + 1]? = _
  rw [mn_rest, List.getElem?_append_left (by simp only [List.length_append, stF_len, hiF_len]; omega), List.getElem?_append_left (by simp only [List.length_append, stF_len, hiF_len]; omega), List.getElem?_append_right (by simp only [List.length_append, stF_len]; omega)]
  simp only [List.length_append, stF_len]
  rw [show n + 44 - (22 + 22) = n by omega]
theorem mn_tx {n : Nat} (hn : n < 3) : (mnF h0 t0 t1 h b cB t x ch d cC g)[n + 135]? = (txF x ch d cC)[n]? := by
  show (mnF h0 t0 t1 h b cB t x ch d cC g)[n + 134 + 1]? = _
  rw [mn_rest, List.getElem?_append_left (by simp only [List.length_append, stF_len, hiF_len]; show n + 134 < 22 + 22 + 90 + 3; omega), List.getElem?_append_right (by simp only [List.length_append, stF_len, hiF_len]; omega)]
  simp only [List.length_append, stF_len, hiF_len]
  rw [show n + 134 - (22 + 22 + 90) = n by omega]
theorem mn_g : (mnF h0 t0 t1 h b cB t x ch d cC g)[138]? = some (g, eD) := by
  show (mnF h0 t0 t1 h b cB t x ch d cC g)[137 + 1]? = _
  rw [mn_rest, List.getElem?_append_right (by simp only [List.length_append, stF_len, hiF_len]; show 22 + 22 + 90 + 3 ≤ 137; decide)]
  simp only [List.length_append, stF_len, hiF_len]
  rfl
theorem mn_at {k y : Nat} (hk : k < 6) (hy : y < 22) : (mnF h0 t0 t1 h b cB t x ch d cC g)[mB k + y]? = (stF (mT t0 t1 t k))[y]? := by
  match k with
  | 0 =>
    show (mnF h0 t0 t1 h b cB t x ch d cC g)[1 + y]? = (stF t0)[y]?
    rw [Nat.add_comm 1 y, mn_rest, List.getElem?_append_left (by simp only [List.length_append, stF_len, hiF_len]; omega), List.getElem?_append_left (by simp only [List.length_append, stF_len, hiF_len]; omega), List.getElem?_append_left (by simp only [List.length_append, stF_len]; omega), List.getElem?_append_left (by simp only [stF_len]; omega)]
  | 1 =>
    show (mnF h0 t0 t1 h b cB t x ch d cC g)[23 + y]? = (stF t1)[y]?
    rw [show 23 + y = y + 22 + 1 by omega, mn_rest, List.getElem?_append_left (by simp only [List.length_append, stF_len, hiF_len]; omega), List.getElem?_append_left (by simp only [List.length_append, stF_len, hiF_len]; omega), List.getElem?_append_left (by simp only [List.length_append, stF_len]; omega), List.getElem?_append_right (by simp only [stF_len]; omega), stF_len, Nat.add_sub_cancel]
  | k + 2 =>
    show (mnF h0 t0 t1 h b cB t x ch d cC g)[22 * k + 47 + y]? = (stF (t k))[y]?
    rw [show 22 * k + 47 + y = (22 * k + y + 1 + 1) + 45 by omega, mn_hi (by omega)]
    show (hpl t 4)[22 * k + y]? = _
    exact hpl_at 4 k y (by omega) hy
end MN
def mnG (id : Nat) : Nat := match id with
  | 0 => 0
  | 1 => 45
  | 2 => 46
  | 3 => 135
  | 4 => 136
  | 5 => 137
  | 6 => 138
  | n + 7 => mB (n / 22) + p22 (n % 22)
def i22 (y : Nat) : Nat := if y = 0 then 0 else if y = 1 then 1 else if y % 2 = 0 then y / 2 + 1 else y / 2 + 11
def mnI (p : Nat) : Nat := if p = 0 then 0 else if p < 45 then 22 * ((p - 1) / 22) + i22 ((p - 1) % 22) + 7 else if p = 45 then 1 else if p = 46 then 2 else if p < 135 then 22 * ((p - 47) / 22 + 2) + i22 ((p - 47) % 22) + 7 else p - 132
theorem mnI_G : ∀ id, id < 139 → mnI (mnG id) = id := by decide +kernel
def mnY (h0 : Nat) (T : Nat → sT) (h b : Nat) (cB : ClassId) (x ch d : Nat) (cC : ClassId) (g : Nat) (D : va_G) : rcY :=
  (fun id => match id with
    | 2 => cB
    | 4 => cC
    | n + 7 => (T (n / 22)).2.2.1
    | _ => cB, fun id => match id with
    | 0 => h0
    | 1 => h
    | 2 => b
    | 3 => x
    | 4 => ch
    | 5 => d
    | 6 => g
    | n + 7 => bA (T (n / 22)) (n % 22), D)
def vB (r k : Nat) : Int32 := if r = 0 then (if k = 2 then 10 else 0) else if r = 1 then 0 else if r < 12 then (if k = 5 then -1 else 0) else if k = 0 then -1 else 0
def vC0 : rcM := fun id => match id with
  | 2 => fun k => nI (sid (k + 2))
  | 5 => fun k => if k = 0 then -1 else 0
  | 6 => fun k => if k = 0 then -1 else 0
  | n + 7 => vB (n % 22)
  | _ => fun _ => 0
theorem vB_c {i : Nat} (h : i < 10) : vB (i + 2) = fun k => if k = 5 then -1 else 0 := by
  funext k
  unfold vB
  rw [if_neg (by omega), if_neg (by omega), if_pos (by omega)]
theorem vB_d {i : Nat} : vB (i + 12) = fun k => if k = 0 then -1 else 0 := by
  funext k
  unfold vB
  rw [if_neg (by omega), if_neg (by omega), if_neg (by omega)]
theorem vC_b {k r : Nat} (hr : r < 22) : vC0 (22 * k + r + 7) = vB r := by
  show vB ((22 * k + r) % 22) = vB r
  rw [show (22 * k + r) % 22 = r by omega]
theorem vC_s {k : Nat} : vC0 (sid k) = vB 0 := vC_b (k := k) (r := 0) (by decide)
theorem vC_c {k i : Nat} (h : i < 10) : vC0 (cid k i) = fun j => if j = 5 then -1 else 0 := by
  rw [show cid k i = 22 * k + (i + 2) + 7 from by show i + (22 * k + 9) = _; omega, vC_b (by omega), vB_c h]
theorem vC_d {k i : Nat} (h : i < 10) : vC0 (did k i) = fun j => if j = 0 then -1 else 0 := by
  rw [show did k i = 22 * k + (i + 12) + 7 from by show i + (22 * k + 9) + 10 = _; omega, vC_b (by omega), vB_d]
section YY
variable {h0 : Nat} {T : Nat → sT} {h b : Nat} {cB : ClassId} {x ch d : Nat} {cC : ClassId} {g : Nat} {D : va_G}
theorem mY_b {k r : Nat} (hr : r < 22) : (mnY h0 T h b cB x ch d cC g D).2.1 (22 * k + r + 7) = bA (T k) r := by
  show bA (T ((22 * k + r) / 22)) ((22 * k + r) % 22) = _
  rw [show (22 * k + r) / 22 = k by omega, show (22 * k + r) % 22 = r by omega]
theorem mY_k {k : Nat} : (mnY h0 T h b cB x ch d cC g D).1 (aid k) = (T k).2.2.1 := by
  show (T ((22 * k + 1) / 22)).2.2.1 = _
  rw [show (22 * k + 1) / 22 = k by omega]
theorem mY_c {k i : Nat} (hi : i < 10) : (mnY h0 T h b cB x ch d cC g D).2.1 (cid k i) = bA (T k) (i + 2) := by
  rw [show cid k i = 22 * k + (i + 2) + 7 from by show i + (22 * k + 9) = _; omega, mY_b (by omega)]
theorem mY_d {k i : Nat} (hi : i < 10) : (mnY h0 T h b cB x ch d cC g D).2.1 (did k i) = bA (T k) (i + 12) := by
  rw [show did k i = 22 * k + (i + 12) + 7 from by show i + (22 * k + 9) + 10 = _; omega, mY_b (by omega)]
theorem ms_s {k : Nat} (hk : k < 6) : rce shC (mnY h0 T h b cB x ch d cC g D) vC0 (sid k) = eS (T k).2.1 := by
  rw [rce_obj (sh_st hk).2]
  have a : (mnY h0 T h b cB x ch d cC g D).2.1 (22 * k + 8) = (T k).2.1 := mY_b (k := k) (r := 1) (by decide)
  have e : ∀ j, vC0 (sid k) j = vB 0 j := fun j => congrFun vC_s j
  show (Sum.inr (3, [.ref ((mnY h0 T h b cB x ch d cC g D).2.1 (22 * k + 8)), .int (vC0 (sid k) 1), .int (vC0 (sid k) 2), .int (vC0 (sid k) 3), .int (vC0 (sid k) 4), .int (vC0 (sid k) 5), .int (vC0 (sid k) 6), .int (vC0 (sid k) 7), .int (vC0 (sid k) 8), .int (vC0 (sid k) 9)]) : va_E) = _
  rw [a, e, e, e, e, e, e, e, e, e]
  rfl
theorem ms_c {k i : Nat} (hk : k < 6) (hi : i < 10) : rce shC (mnY h0 T h b cB x ch d cC g D) vC0 (cid k i) = eC ((T k).2.2.2.2 i) := by
  rw [rce_obj (sh_cell hk hi).2]
  have a : (mnY h0 T h b cB x ch d cC g D).2.1 (cid k i + 10) = (T k).2.2.2.2 i := (mY_d hi).trans bA_d
  have e : ∀ j, vC0 (cid k i) j = if j = 5 then -1 else 0 := fun j => congrFun (vC_c hi) j
  show (Sum.inr (0, [.ref ((mnY h0 T h b cB x ch d cC g D).2.1 (cid k i + 10)), .int (vC0 (cid k i) 1), .int (rcb (vC0 (cid k i) 2)), .int (vC0 (cid k i) 3), .int (vC0 (cid k i) 4), .int (vC0 (cid k i) 5), .int (vC0 (cid k i) 6), .int (rcb (vC0 (cid k i) 7))]) : va_E) = _
  rw [a, e, e, e, e, e, e, e]
  rfl
theorem ms_d {k i : Nat} (hk : k < 6) (hi : i < 10) : rce shC (mnY h0 T h b cB x ch d cC g D) vC0 (did k i) = eD := by
  rw [rce_obj (sh_def hk hi).2]
  have e : ∀ j, vC0 (did k i) j = if j = 0 then -1 else 0 := fun j => congrFun (vC_d hi) j
  show (Sum.inr (1, [.int (vC0 (did k i) 0), .int (vC0 (did k i) 1), .int (vC0 (did k i) 2), .int (vC0 (did k i) 3), .int (vC0 (did k i) 4)]) : va_E) = _
  rw [e, e, e, e, e]
  rfl
theorem ms_a {k : Nat} {H : Heap} (hk : k < 6) (q : va_at D vwCl ((T k).2.1, eR (T k).2.2.1 10 10 (T k).2.2.2.1) H) : va_at D vwCl ((mnY h0 T h b cB x ch d cC g D).2.1 (aid k), rce shC (mnY h0 T h b cB x ch d cC g D) vC0 (aid k)) H := by
  rw [rce_arr (sh_arr hk).2, mY_k, show (mnY h0 T h b cB x ch d cC g D).2.1 (aid k) = (T k).2.1 from mY_b (k := k) (r := 1) (by decide)]
  refine at_refs (fun j hj => ?_) q
  rw [if_pos hj]
  show _ = some ((mnY h0 T h b cB x ch d cC g D).2.1 (j + (aid k + 1)))
  rw [show j + (aid k + 1) = 22 * k + (j + 2) + 7 from by show j + (22 * k + 8 + 1) = _; omega, mY_b (by omega), bA_c hj]
end YY
