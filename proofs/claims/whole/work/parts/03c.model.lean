/-! The reference: define, formula, cellOf, and what a look is made of. -/
theorem rPe {q : Int32 × rcM} {x : Int32} {u : rcM} (h : q = (x, u)) : rP q (some (.int x)) u := by subst h; exact ⟨rfl, rfl⟩
def M_beg (v : rcM) : rcM := rcr v 2 (cp 158 (v 1) (v 2))
def M_ret (v : rcM) : rcM := rcr v 1 (cp 158 (v 2) (v 1))
def M_defN (v : rcM) (n i : Nat) (a b c d e : Int32) : Int32 × rcM := (A_def (v 1) i a b c d e 0, M_acted n (A_def (v 1) i a b c d e 0) (rcr (M_beg v) 1 (A_def (v 1) i a b c d e)))
def isV (x : Int32) : Prop := -99999 ≤ x ∧ x ≤ 99999
def isC (x : Int32) : Prop := 0 ≤ x ∧ x ≤ 9
def M_define (v : rcM) (n : Nat) (c x : Int32) : Int32 × rcM := if (0 ≤ c ∧ c ≤ 9) ∧ (-99999 ≤ x ∧ x ≤ 99999) then M_defN v n c.toNatClampNeg 0 x 0 0 0 else (-2000000001, v)
theorem M_define_ok {v : rcM} {n i : Nat} {x : Int32} (hi : i < 10) (hx : -99999 ≤ x ∧ x ≤ 99999) : M_define v n (nI i) x = M_defN v n i 0 x 0 0 0 := by
  unfold M_define
  rw [if_pos ⟨nI_in9 hi, hx⟩, nI_clamp (by omega)]
/-- what the third of a formula's cells may be -/
def thirdOk (k e : Int32) : Prop := 0 ≤ e ∧ e ≤ (if k = 4 then 9 else 0)
def M_formula (v : rcM) (n : Nat) (c k x y z : Int32) : Int32 × rcM := if (0 ≤ c ∧ c ≤ 9) ∧ (0 ≤ k ∧ k ≤ 4) ∧ (0 ≤ x ∧ x ≤ 9) ∧ (0 ≤ y ∧ y ≤ 9) ∧ (0 ≤ z ∧ z ≤ (if k = 4 then (9 : Int32) else 0)) then M_defN v n c.toNatClampNeg (k + 1) 0 x y z else (-2000000001, v)
theorem M_formula_ok {v : rcM} {n i : Nat} {k x y z : Int32} (hi : i < 10) (h : (0 ≤ k ∧ k ≤ 4) ∧ (0 ≤ x ∧ x ≤ 9) ∧ (0 ≤ y ∧ y ≤ 9) ∧ (0 ≤ z ∧ z ≤ (if k = 4 then (9 : Int32) else 0))) : M_formula v n (nI i) k x y z = M_defN v n i (k + 1) 0 x y z := by
  unfold M_formula
  rw [if_pos ⟨nI_in9 hi, h⟩, nI_clamp (by omega)]
set_option maxHeartbeats 4000000 in
set_option maxRecDepth 100000 in
theorem k_define {Y : rcY} {la : Launch} {v : rcM} {c x : Int32} {n : Nat} (hn4 : n ≤ 4) (hn3 : v 0 3 = nI n) : rcT shM 13 Y la 3 (yX6_define, cX6_define, 3, (some .int)) [.ref (Y.2.1 0), .int c, .int x] (v) (rP (M_define v n c x)) := by
  refine rcT.of (by decide +kernel) (Nat.le_of_ble_eq_true rfl) (fun X F hn => ?_)
  refine j_iload_n F.1 dX6_define_0 rfl ?_
  refine j_callSi F (k_isCell) co_X6_isCell ml_X6_69 st_X6_isCell in_X6 rc_X6_isCell rfl (by decide) (by decide) rfl (Nat.le_of_ble_eq_true rfl) dX6_define_1 ?_
  refine j_if_eq F.1 14 dX6_define_4 (by decide) (fun h4 => ?_) (fun h4 => ?_)
  · rw [b2_0] at h4
    refine j_ldc F cn_X6_50 dX6_define_14 ?_
    exact j_iret F dX6_define_16 ((rPe (if_neg (fun z => by first | exact h4 z.1 | exact h11 z.2))))
  · rw [b2_0, Classical.not_not] at h4
    obtain ⟨i, hi, rfl⟩ := cell_of h4
    refine j_iload_n F.1 dX6_define_7 rfl ?_
    refine j_callSi F (k_isValue) co_X6_isValue ml_X6_73 st_X6_isValue in_X6 rc_X6_isValue rfl (by decide) (by decide) rfl (Nat.le_of_ble_eq_true rfl) dX6_define_8 ?_
    refine j_if_ne F.1 17 dX6_define_11 (by decide) (fun h11 => ?_) (fun h11 => ?_)
    · rw [b2_0, Classical.not_not] at h11
      refine j_aload_n F.1 dX6_define_17 rfl ?_
      refine j_callVv F (k_begins) co_X6_begins ml_X6_76 im_X6_begins se_X6_begins in_X6 rc_X6_begins rfl (by decide) (by decide) ⟨by decide, rfl⟩ rfl rfl (Nat.le_of_ble_eq_true rfl) dX6_define_18 ?_
      refine j_aload_n F.1 dX6_define_21 rfl ?_
      refine j_aload_n F.1 dX6_define_22 rfl ?_
      refine j_iload_n F.1 dX6_define_23 rfl ?_
      refine j_iconst F.1 (0) dX6_define_24 (by decide) ?_
      refine j_iload_n F.1 dX6_define_25 rfl ?_
      refine j_iconst F.1 (0) dX6_define_26 (by decide) ?_
      refine j_iconst F.1 (0) dX6_define_27 (by decide) ?_
      refine j_iconst F.1 (0) dX6_define_28 (by decide) ?_
      refine j_callVi F (k_defines (by assumption)) co_X6_defines ml_X6_79 im_X6_defines se_X6_defines in_X6 rc_X6_defines rfl (by decide) (by decide) ⟨by decide, rfl⟩ rfl rfl (Nat.le_of_ble_eq_true rfl) dX6_define_29 ?_
      refine j_callVi F (k_acted hn4 (by rw [rcr_n (by decide), rcr_n (by decide)]; exact hn3)) co_X6_acted ml_X6_83 im_X6_acted se_X6_acted in_X6 rc_X6_acted rfl (by decide) (by decide) ⟨by decide, rfl⟩ rfl rfl (Nat.le_of_ble_eq_true rfl) dX6_define_32 ?_
      exact j_iret F dX6_define_35 ((rPe (by rw [M_define_ok hi h11]; unfold M_defN M_beg; rw [rcr_n (a := 2) (b := 1) (by decide)])))
    · rw [b2_0] at h11
      refine j_ldc F cn_X6_50 dX6_define_14 ?_
      exact j_iret F dX6_define_16 ((rPe (if_neg (fun z => by first | exact h4 z.1 | exact h11 z.2))))
set_option maxHeartbeats 4000000 in
set_option maxRecDepth 100000 in
theorem k_formula {Y : rcY} {la : Launch} {v : rcM} {c k x y z : Int32} {n : Nat} (hn4 : n ≤ 4) (hn3 : v 0 3 = nI n) : rcT shM 13 Y la 3 (yX6_formula, cX6_formula, 6, (some .int)) [.ref (Y.2.1 0), .int c, .int k, .int x, .int y, .int z] (v) (rP (M_formula v n c k x y z)) := by
  refine rcT.of (by decide +kernel) (Nat.le_of_ble_eq_true rfl) (fun X F hn => ?_)
  refine j_iload_n F.1 dX6_formula_0 rfl ?_
  refine j_callSi F (k_isCell) co_X6_isCell ml_X6_69 st_X6_isCell in_X6 rc_X6_isCell rfl (by decide) (by decide) rfl (Nat.le_of_ble_eq_true rfl) dX6_formula_1 ?_
  refine j_if_eq F.1 51 dX6_formula_4 (by decide) (fun h4 => ?_) (fun h4 => ?_)
  · rw [b2_0] at h4
    refine j_ldc F cn_X6_50 dX6_formula_51 ?_
    exact j_iret F dX6_formula_53 ((rPe (if_neg (fun z => by first | exact h4 z.1 | exact h13 z.2.1 | exact h20 z.2.2.1 | exact h28 z.2.2.2.1 | exact h48 (by have q := z.2.2.2.2; first | rwa [if_pos h36] at q | rwa [if_neg h36] at q)))))
  · rw [b2_0, Classical.not_not] at h4
    obtain ⟨i, hi, rfl⟩ := cell_of h4
    refine j_iload_n F.1 dX6_formula_7 rfl ?_
    refine j_iconst F.1 (0) dX6_formula_8 (by decide) ?_
    refine j_iconst F.1 (4) dX6_formula_9 (by decide) ?_
    refine j_callSi F (k_in) co_X6_in ml_X6_46 st_X6_in in_X6 rc_X6_in rfl (by decide) (by decide) rfl (Nat.le_of_ble_eq_true rfl) dX6_formula_10 ?_
    refine j_if_eq F.1 51 dX6_formula_13 (by decide) (fun h13 => ?_) (fun h13 => ?_)
    · rw [b2_0] at h13
      refine j_ldc F cn_X6_50 dX6_formula_51 ?_
      exact j_iret F dX6_formula_53 ((rPe (if_neg (fun z => by first | exact h4 z.1 | exact h13 z.2.1 | exact h20 z.2.2.1 | exact h28 z.2.2.2.1 | exact h48 (by have q := z.2.2.2.2; first | rwa [if_pos h36] at q | rwa [if_neg h36] at q)))))
    · rw [b2_0, Classical.not_not] at h13
      refine j_iload_n F.1 dX6_formula_16 rfl ?_
      refine j_callSi F (k_isCell) co_X6_isCell ml_X6_69 st_X6_isCell in_X6 rc_X6_isCell rfl (by decide) (by decide) rfl (Nat.le_of_ble_eq_true rfl) dX6_formula_17 ?_
      refine j_if_eq F.1 51 dX6_formula_20 (by decide) (fun h20 => ?_) (fun h20 => ?_)
      · rw [b2_0] at h20
        refine j_ldc F cn_X6_50 dX6_formula_51 ?_
        exact j_iret F dX6_formula_53 ((rPe (if_neg (fun z => by first | exact h4 z.1 | exact h13 z.2.1 | exact h20 z.2.2.1 | exact h28 z.2.2.2.1 | exact h48 (by have q := z.2.2.2.2; first | rwa [if_pos h36] at q | rwa [if_neg h36] at q)))))
      · rw [b2_0, Classical.not_not] at h20
        refine j_iload F.1 dX6_formula_23 rfl ?_
        refine j_callSi F (k_isCell) co_X6_isCell ml_X6_69 st_X6_isCell in_X6 rc_X6_isCell rfl (by decide) (by decide) rfl (Nat.le_of_ble_eq_true rfl) dX6_formula_25 ?_
        refine j_if_eq F.1 51 dX6_formula_28 (by decide) (fun h28 => ?_) (fun h28 => ?_)
        · rw [b2_0] at h28
          refine j_ldc F cn_X6_50 dX6_formula_51 ?_
          exact j_iret F dX6_formula_53 ((rPe (if_neg (fun z => by first | exact h4 z.1 | exact h13 z.2.1 | exact h20 z.2.2.1 | exact h28 z.2.2.2.1 | exact h48 (by have q := z.2.2.2.2; first | rwa [if_pos h36] at q | rwa [if_neg h36] at q)))))
        · rw [b2_0, Classical.not_not] at h28
          refine j_iload F.1 dX6_formula_31 rfl ?_
          refine j_iconst F.1 (0) dX6_formula_33 (by decide) ?_
          refine j_iload_n F.1 dX6_formula_34 rfl ?_
          refine j_iconst F.1 (4) dX6_formula_35 (by decide) ?_
          refine j_icmp_ne F.1 44 dX6_formula_36 (by decide) (fun h36 => ?_) (fun h36 => ?_)
          · refine j_iconst F.1 (0) dX6_formula_44 (by decide) ?_
            refine j_callSi F (k_in) co_X6_in ml_X6_46 st_X6_in in_X6 rc_X6_in rfl (by decide) (by decide) rfl (Nat.le_of_ble_eq_true rfl) dX6_formula_45 ?_
            refine j_if_ne F.1 54 dX6_formula_48 (by decide) (fun h48 => ?_) (fun h48 => ?_)
            · rw [b2_0, Classical.not_not] at h48
              refine j_aload_n F.1 dX6_formula_54 rfl ?_
              refine j_callVv F (k_begins) co_X6_begins ml_X6_76 im_X6_begins se_X6_begins in_X6 rc_X6_begins rfl (by decide) (by decide) ⟨by decide, rfl⟩ rfl rfl (Nat.le_of_ble_eq_true rfl) dX6_formula_55 ?_
              refine j_aload_n F.1 dX6_formula_58 rfl ?_
              refine j_aload_n F.1 dX6_formula_59 rfl ?_
              refine j_iload_n F.1 dX6_formula_60 rfl ?_
              refine j_iload_n F.1 dX6_formula_61 rfl ?_
              refine j_iconst F.1 (1) dX6_formula_62 (by decide) ?_
              refine j_iadd F.1 dX6_formula_63 ?_
              refine j_iconst F.1 (0) dX6_formula_64 (by decide) ?_
              refine j_iload_n F.1 dX6_formula_65 rfl ?_
              refine j_iload F.1 dX6_formula_66 rfl ?_
              refine j_iload F.1 dX6_formula_68 rfl ?_
              refine j_callVi F (k_defines (by assumption)) co_X6_defines ml_X6_79 im_X6_defines se_X6_defines in_X6 rc_X6_defines rfl (by decide) (by decide) ⟨by decide, rfl⟩ rfl rfl (Nat.le_of_ble_eq_true rfl) dX6_formula_70 ?_
              refine j_callVi F (k_acted hn4 (by rw [rcr_n (by decide), rcr_n (by decide)]; exact hn3)) co_X6_acted ml_X6_83 im_X6_acted se_X6_acted in_X6 rc_X6_acted rfl (by decide) (by decide) ⟨by decide, rfl⟩ rfl rfl (Nat.le_of_ble_eq_true rfl) dX6_formula_73 ?_
              exact j_iret F dX6_formula_76 ((rPe (by rw [M_formula_ok hi ⟨h13, h20, h28, by first | rwa [if_pos h36] | rwa [if_neg h36]⟩]; unfold M_defN M_beg; rw [rcr_n (a := 2) (b := 1) (by decide)])))
            · rw [b2_0] at h48
              refine j_ldc F cn_X6_50 dX6_formula_51 ?_
              exact j_iret F dX6_formula_53 ((rPe (if_neg (fun z => by first | exact h4 z.1 | exact h13 z.2.1 | exact h20 z.2.2.1 | exact h28 z.2.2.2.1 | exact h48 (by have q := z.2.2.2.2; first | rwa [if_pos h36] at q | rwa [if_neg h36] at q)))))
          · refine j_bipush F.1 (9) dX6_formula_39 (by decide) ?_
            refine j_goto F.1 45 dX6_formula_41 (by decide) ?_
            refine j_callSi F (k_in) co_X6_in ml_X6_46 st_X6_in in_X6 rc_X6_in rfl (by decide) (by decide) rfl (Nat.le_of_ble_eq_true rfl) dX6_formula_45 ?_
            refine j_if_ne F.1 54 dX6_formula_48 (by decide) (fun h48 => ?_) (fun h48 => ?_)
            · rw [b2_0, Classical.not_not] at h48
              refine j_aload_n F.1 dX6_formula_54 rfl ?_
              refine j_callVv F (k_begins) co_X6_begins ml_X6_76 im_X6_begins se_X6_begins in_X6 rc_X6_begins rfl (by decide) (by decide) ⟨by decide, rfl⟩ rfl rfl (Nat.le_of_ble_eq_true rfl) dX6_formula_55 ?_
              refine j_aload_n F.1 dX6_formula_58 rfl ?_
              refine j_aload_n F.1 dX6_formula_59 rfl ?_
              refine j_iload_n F.1 dX6_formula_60 rfl ?_
              refine j_iload_n F.1 dX6_formula_61 rfl ?_
              refine j_iconst F.1 (1) dX6_formula_62 (by decide) ?_
              refine j_iadd F.1 dX6_formula_63 ?_
              refine j_iconst F.1 (0) dX6_formula_64 (by decide) ?_
              refine j_iload_n F.1 dX6_formula_65 rfl ?_
              refine j_iload F.1 dX6_formula_66 rfl ?_
              refine j_iload F.1 dX6_formula_68 rfl ?_
              refine j_callVi F (k_defines (by assumption)) co_X6_defines ml_X6_79 im_X6_defines se_X6_defines in_X6 rc_X6_defines rfl (by decide) (by decide) ⟨by decide, rfl⟩ rfl rfl (Nat.le_of_ble_eq_true rfl) dX6_formula_70 ?_
              refine j_callVi F (k_acted hn4 (by rw [rcr_n (by decide), rcr_n (by decide)]; exact hn3)) co_X6_acted ml_X6_83 im_X6_acted se_X6_acted in_X6 rc_X6_acted rfl (by decide) (by decide) ⟨by decide, rfl⟩ rfl rfl (Nat.le_of_ble_eq_true rfl) dX6_formula_73 ?_
              exact j_iret F dX6_formula_76 ((rPe (by rw [M_formula_ok hi ⟨h13, h20, h28, by first | rwa [if_pos h36] | rwa [if_neg h36]⟩]; unfold M_defN M_beg; rw [rcr_n (a := 2) (b := 1) (by decide)])))
            · rw [b2_0] at h48
              refine j_ldc F cn_X6_50 dX6_formula_51 ?_
              exact j_iret F dX6_formula_53 ((rPe (if_neg (fun z => by first | exact h4 z.1 | exact h13 z.2.1 | exact h20 z.2.2.1 | exact h28 z.2.2.2.1 | exact h48 (by have q := z.2.2.2.2; first | rwa [if_pos h36] at q | rwa [if_neg h36] at q)))))
/-- is there such a thing: of a cell's row, what 0 to 4 -/
def M_cellIs (f : Nat → Int32) (i : Nat) (w : Int32) : Prop := w = 0 ∨ ((w = 1 ↔ f (ix i 0) = 0) ∧ (w < 4 ∨ f (ix i 0) = 5))
def M_cellOf (v : rcM) (c w : Int32) : Int32 := if (0 ≤ c ∧ c ≤ 9) ∧ (0 ≤ w ∧ w ≤ 4) then (if w = 0 ∨ ((w = 1 ↔ v 1 (ix c.toNatClampNeg 0) = 0) ∧ (w < 4 ∨ v 1 (ix c.toNatClampNeg 0) = 5)) then v 1 (ix c.toNatClampNeg w.toNatClampNeg) else -2000000004) else -2000000001
theorem M_cellOf_t {v : rcM} {i j : Nat} (hi : i < 10) (hj : j < 5) (h : nI j = 0 ∨ ((nI j = 1 ↔ v 1 (ix i 0) = 0) ∧ (nI j < 4 ∨ v 1 (ix i 0) = 5))) : M_cellOf v (nI i) (nI j) = v 1 (ix i j) := by
  unfold M_cellOf
  rw [if_pos ⟨nI_in9 hi, nI_pos' (by omega), nI_le (a := j) (b := 4) (by omega) (by decide)⟩, nI_clamp (by omega), nI_clamp (by omega), if_pos h]
theorem M_cellOf_f {v : rcM} {i j : Nat} (hi : i < 10) (hj : j < 5) (h : ¬ (nI j = 0 ∨ ((nI j = 1 ↔ v 1 (ix i 0) = 0) ∧ (nI j < 4 ∨ v 1 (ix i 0) = 5)))) : M_cellOf v (nI i) (nI j) = -2000000004 := by
  unfold M_cellOf
  rw [if_pos ⟨nI_in9 hi, nI_pos' (by omega), nI_le (a := j) (b := 4) (by omega) (by decide)⟩, nI_clamp (by omega), if_neg h]
theorem what_of {w M : Int32} {n : Nat} (hM : M.toInt = n) (h : 0 ≤ w ∧ w ≤ M) : ∃ j : Nat, j ≤ n ∧ w = nI j := nI_of2 hM (Int32.not_lt.mpr h.1) h.2
set_option maxHeartbeats 4000000 in
set_option maxRecDepth 100000 in
theorem k_cellOf {Y : rcY} {la : Launch} {v : rcM} {c w : Int32} : rcT shM 13 Y la 2 (yX6_cellOf, cX6_cellOf, 4, (some .int)) [.ref (Y.2.1 0), .int c, .int w] (v) (rI (M_cellOf v c w) v) := by
  refine rcT.of (by decide +kernel) (Nat.le_of_ble_eq_true rfl) (fun X F hn => ?_)
  refine j_iload_n F.1 dX6_cellOf_0 rfl ?_
  refine j_callSi F (k_isCell) co_X6_isCell ml_X6_69 st_X6_isCell in_X6 rc_X6_isCell rfl (by decide) (by decide) rfl (Nat.le_of_ble_eq_true rfl) dX6_cellOf_1 ?_
  refine j_if_eq F.1 16 dX6_cellOf_4 (by decide) (fun h4 => ?_) (fun h4 => ?_)
  · rw [b2_0] at h4
    refine j_ldc F cn_X6_50 dX6_cellOf_16 ?_
    exact j_iret F dX6_cellOf_18 ((rIe (if_neg (fun z => by first | exact h4 z.1 | exact h13 z.2)).symm rfl))
  · rw [b2_0, Classical.not_not] at h4
    obtain ⟨i, hi, rfl⟩ := cell_of h4
    refine j_iload_n F.1 dX6_cellOf_7 rfl ?_
    refine j_iconst F.1 (0) dX6_cellOf_8 (by decide) ?_
    refine j_iconst F.1 (4) dX6_cellOf_9 (by decide) ?_
    refine j_callSi F (k_in) co_X6_in ml_X6_46 st_X6_in in_X6 rc_X6_in rfl (by decide) (by decide) rfl (Nat.le_of_ble_eq_true rfl) dX6_cellOf_10 ?_
    refine j_if_ne F.1 19 dX6_cellOf_13 (by decide) (fun h13 => ?_) (fun h13 => ?_)
    · rw [b2_0, Classical.not_not] at h13
      obtain ⟨j, hj, rfl⟩ := what_of (n := 4) rfl h13
      refine j_iload_n F.1 dX6_cellOf_19 rfl ?_
      refine j_if_eq F.1 65 dX6_cellOf_20 (by decide) (fun h20 => ?_) (fun h20 => ?_)
      · refine j_iconst F.1 (1) dX6_cellOf_65 (by decide) ?_
        refine j_goto F.1 70 dX6_cellOf_66 (by decide) ?_
        refine j_istore_n F.1 dX6_cellOf_70 (by rw [hn]; decide) ?_
        refine j_iload_n F.1 dX6_cellOf_71 rfl ?_
        refine j_if_eq F.1 84 dX6_cellOf_72 (by decide) (fun h72 => False.elim (by revert h72; decide)) (fun _ => ?_)
        refine j_aload_n F.1 dX6_cellOf_75 rfl ?_
        refine j_iload_n F.1 dX6_cellOf_76 rfl ?_
        refine j_iload_n F.1 dX6_cellOf_77 rfl ?_
        refine j_callVi F (k_of hi (by omega)) co_X6_of ml_X6_55 im_X6_of se_X6_of in_X6 rc_X6_of rfl (by decide) (by decide) ⟨by decide, rfl⟩ rfl rfl (Nat.le_of_ble_eq_true rfl) dX6_cellOf_78 ?_
        refine j_goto F.1 86 dX6_cellOf_81 (by decide) ?_
        exact j_iret F dX6_cellOf_86 ((rIe (by first | exact absurd h72 (by decide) | exact absurd rfl h72 | exact absurd h47 (by decide) | exact absurd rfl h47 | exact (M_cellOf_t hi (by omega) (by first | exact Or.inl h20 | exact Or.inr ⟨by simp only [h25, h39], Or.inl h52⟩ | exact Or.inr ⟨by simp only [h25, h39], Or.inr h62⟩)).symm | exact (M_cellOf_f hi (by omega) (fun z => by rcases z with z | ⟨z1, z2⟩ <;> first | exact h20 z | (rcases z2 with z2 | z2; exact h52 z2; exact h62 z2) | exact absurd z1 (by simp [h25, h39]; done))).symm) rfl))
      · refine j_iload_n F.1 dX6_cellOf_23 rfl ?_
        refine j_iconst F.1 (1) dX6_cellOf_24 (by decide) ?_
        refine j_icmp_ne F.1 32 dX6_cellOf_25 (by decide) (fun h25 => ?_) (fun h25 => ?_)
        · refine j_iconst F.1 (0) dX6_cellOf_32 (by decide) ?_
          refine j_aload_n F.1 dX6_cellOf_33 rfl ?_
          refine j_iload_n F.1 dX6_cellOf_34 rfl ?_
          refine j_iconst F.1 (0) dX6_cellOf_35 (by decide) ?_
          refine j_callVi F (k_of (by assumption) (by decide)) co_X6_of ml_X6_55 im_X6_of se_X6_of in_X6 rc_X6_of rfl (by decide) (by decide) ⟨by decide, rfl⟩ rfl rfl (Nat.le_of_ble_eq_true rfl) dX6_cellOf_36 ?_
          refine j_if_ne F.1 46 dX6_cellOf_39 (by decide) (fun h39 => ?_) (fun h39 => ?_)
          · refine j_iconst F.1 (0) dX6_cellOf_46 (by decide) ?_
            refine j_icmp_ne F.1 69 dX6_cellOf_47 (by decide) (fun h47 => False.elim (by revert h47; decide)) (fun _ => ?_)
            refine j_iload_n F.1 dX6_cellOf_50 rfl ?_
            refine j_iconst F.1 (4) dX6_cellOf_51 (by decide) ?_
            refine j_icmp_lt F.1 65 dX6_cellOf_52 (by decide) (fun h52 => ?_) (fun h52 => ?_)
            · refine j_iconst F.1 (1) dX6_cellOf_65 (by decide) ?_
              refine j_goto F.1 70 dX6_cellOf_66 (by decide) ?_
              refine j_istore_n F.1 dX6_cellOf_70 (by rw [hn]; decide) ?_
              refine j_iload_n F.1 dX6_cellOf_71 rfl ?_
              refine j_if_eq F.1 84 dX6_cellOf_72 (by decide) (fun h72 => False.elim (by revert h72; decide)) (fun _ => ?_)
              refine j_aload_n F.1 dX6_cellOf_75 rfl ?_
              refine j_iload_n F.1 dX6_cellOf_76 rfl ?_
              refine j_iload_n F.1 dX6_cellOf_77 rfl ?_
              refine j_callVi F (k_of hi (by omega)) co_X6_of ml_X6_55 im_X6_of se_X6_of in_X6 rc_X6_of rfl (by decide) (by decide) ⟨by decide, rfl⟩ rfl rfl (Nat.le_of_ble_eq_true rfl) dX6_cellOf_78 ?_
              refine j_goto F.1 86 dX6_cellOf_81 (by decide) ?_
              exact j_iret F dX6_cellOf_86 ((rIe (by first | exact absurd h72 (by decide) | exact absurd rfl h72 | exact absurd h47 (by decide) | exact absurd rfl h47 | exact (M_cellOf_t hi (by omega) (by first | exact Or.inl h20 | exact Or.inr ⟨by simp only [h25, h39], Or.inl h52⟩ | exact Or.inr ⟨by simp only [h25, h39], Or.inr h62⟩)).symm | exact (M_cellOf_f hi (by omega) (fun z => by rcases z with z | ⟨z1, z2⟩ <;> first | exact h20 z | (rcases z2 with z2 | z2; exact h52 z2; exact h62 z2) | exact absurd z1 (by simp [h25, h39]; done))).symm) rfl))
            · refine j_aload_n F.1 dX6_cellOf_55 rfl ?_
              refine j_iload_n F.1 dX6_cellOf_56 rfl ?_
              refine j_iconst F.1 (0) dX6_cellOf_57 (by decide) ?_
              refine j_callVi F (k_of (by assumption) (by decide)) co_X6_of ml_X6_55 im_X6_of se_X6_of in_X6 rc_X6_of rfl (by decide) (by decide) ⟨by decide, rfl⟩ rfl rfl (Nat.le_of_ble_eq_true rfl) dX6_cellOf_58 ?_
              refine j_iconst F.1 (5) dX6_cellOf_61 (by decide) ?_
              refine j_icmp_ne F.1 69 dX6_cellOf_62 (by decide) (fun h62 => ?_) (fun h62 => ?_)
              · refine j_iconst F.1 (0) dX6_cellOf_69 (by decide) ?_
                refine j_istore_n F.1 dX6_cellOf_70 (by rw [hn]; decide) ?_
                refine j_iload_n F.1 dX6_cellOf_71 rfl ?_
                refine j_if_eq F.1 84 dX6_cellOf_72 (by decide) (fun _ => ?_) (fun h72 => False.elim (by revert h72; decide))
                refine j_ldc F cn_X6_87 dX6_cellOf_84 ?_
                exact j_iret F dX6_cellOf_86 ((rIe (by first | exact absurd h72 (by decide) | exact absurd rfl h72 | exact absurd h47 (by decide) | exact absurd rfl h47 | exact (M_cellOf_t hi (by omega) (by first | exact Or.inl h20 | exact Or.inr ⟨by simp only [h25, h39], Or.inl h52⟩ | exact Or.inr ⟨by simp only [h25, h39], Or.inr h62⟩)).symm | exact (M_cellOf_f hi (by omega) (fun z => by rcases z with z | ⟨z1, z2⟩ <;> first | exact h20 z | (rcases z2 with z2 | z2; exact h52 z2; exact h62 z2) | exact absurd z1 (by simp [h25, h39]; done))).symm) rfl))
              · refine j_iconst F.1 (1) dX6_cellOf_65 (by decide) ?_
                refine j_goto F.1 70 dX6_cellOf_66 (by decide) ?_
                refine j_istore_n F.1 dX6_cellOf_70 (by rw [hn]; decide) ?_
                refine j_iload_n F.1 dX6_cellOf_71 rfl ?_
                refine j_if_eq F.1 84 dX6_cellOf_72 (by decide) (fun h72 => False.elim (by revert h72; decide)) (fun _ => ?_)
                refine j_aload_n F.1 dX6_cellOf_75 rfl ?_
                refine j_iload_n F.1 dX6_cellOf_76 rfl ?_
                refine j_iload_n F.1 dX6_cellOf_77 rfl ?_
                refine j_callVi F (k_of hi (by omega)) co_X6_of ml_X6_55 im_X6_of se_X6_of in_X6 rc_X6_of rfl (by decide) (by decide) ⟨by decide, rfl⟩ rfl rfl (Nat.le_of_ble_eq_true rfl) dX6_cellOf_78 ?_
                refine j_goto F.1 86 dX6_cellOf_81 (by decide) ?_
                exact j_iret F dX6_cellOf_86 ((rIe (by first | exact absurd h72 (by decide) | exact absurd rfl h72 | exact absurd h47 (by decide) | exact absurd rfl h47 | exact (M_cellOf_t hi (by omega) (by first | exact Or.inl h20 | exact Or.inr ⟨by simp only [h25, h39], Or.inl h52⟩ | exact Or.inr ⟨by simp only [h25, h39], Or.inr h62⟩)).symm | exact (M_cellOf_f hi (by omega) (fun z => by rcases z with z | ⟨z1, z2⟩ <;> first | exact h20 z | (rcases z2 with z2 | z2; exact h52 z2; exact h62 z2) | exact absurd z1 (by simp [h25, h39]; done))).symm) rfl))
          · refine j_iconst F.1 (1) dX6_cellOf_42 (by decide) ?_
            refine j_goto F.1 47 dX6_cellOf_43 (by decide) ?_
            refine j_icmp_ne F.1 69 dX6_cellOf_47 (by decide) (fun _ => ?_) (fun h47 => False.elim (by revert h47; decide))
            refine j_iconst F.1 (0) dX6_cellOf_69 (by decide) ?_
            refine j_istore_n F.1 dX6_cellOf_70 (by rw [hn]; decide) ?_
            refine j_iload_n F.1 dX6_cellOf_71 rfl ?_
            refine j_if_eq F.1 84 dX6_cellOf_72 (by decide) (fun _ => ?_) (fun h72 => False.elim (by revert h72; decide))
            refine j_ldc F cn_X6_87 dX6_cellOf_84 ?_
            exact j_iret F dX6_cellOf_86 ((rIe (by first | exact absurd h72 (by decide) | exact absurd rfl h72 | exact absurd h47 (by decide) | exact absurd rfl h47 | exact (M_cellOf_t hi (by omega) (by first | exact Or.inl h20 | exact Or.inr ⟨by simp only [h25, h39], Or.inl h52⟩ | exact Or.inr ⟨by simp only [h25, h39], Or.inr h62⟩)).symm | exact (M_cellOf_f hi (by omega) (fun z => by rcases z with z | ⟨z1, z2⟩ <;> first | exact h20 z | (rcases z2 with z2 | z2; exact h52 z2; exact h62 z2) | exact absurd z1 (by simp [h25, h39]; done))).symm) rfl))
        · refine j_iconst F.1 (1) dX6_cellOf_28 (by decide) ?_
          refine j_goto F.1 33 dX6_cellOf_29 (by decide) ?_
          refine j_aload_n F.1 dX6_cellOf_33 rfl ?_
          refine j_iload_n F.1 dX6_cellOf_34 rfl ?_
          refine j_iconst F.1 (0) dX6_cellOf_35 (by decide) ?_
          refine j_callVi F (k_of (by assumption) (by decide)) co_X6_of ml_X6_55 im_X6_of se_X6_of in_X6 rc_X6_of rfl (by decide) (by decide) ⟨by decide, rfl⟩ rfl rfl (Nat.le_of_ble_eq_true rfl) dX6_cellOf_36 ?_
          refine j_if_ne F.1 46 dX6_cellOf_39 (by decide) (fun h39 => ?_) (fun h39 => ?_)
          · refine j_iconst F.1 (0) dX6_cellOf_46 (by decide) ?_
            refine j_icmp_ne F.1 69 dX6_cellOf_47 (by decide) (fun _ => ?_) (fun h47 => False.elim (by revert h47; decide))
            refine j_iconst F.1 (0) dX6_cellOf_69 (by decide) ?_
            refine j_istore_n F.1 dX6_cellOf_70 (by rw [hn]; decide) ?_
            refine j_iload_n F.1 dX6_cellOf_71 rfl ?_
            refine j_if_eq F.1 84 dX6_cellOf_72 (by decide) (fun _ => ?_) (fun h72 => False.elim (by revert h72; decide))
            refine j_ldc F cn_X6_87 dX6_cellOf_84 ?_
            exact j_iret F dX6_cellOf_86 ((rIe (by first | exact absurd h72 (by decide) | exact absurd rfl h72 | exact absurd h47 (by decide) | exact absurd rfl h47 | exact (M_cellOf_t hi (by omega) (by first | exact Or.inl h20 | exact Or.inr ⟨by simp only [h25, h39], Or.inl h52⟩ | exact Or.inr ⟨by simp only [h25, h39], Or.inr h62⟩)).symm | exact (M_cellOf_f hi (by omega) (fun z => by rcases z with z | ⟨z1, z2⟩ <;> first | exact h20 z | (rcases z2 with z2 | z2; exact h52 z2; exact h62 z2) | exact absurd z1 (by simp [h25, h39]; done))).symm) rfl))
          · refine j_iconst F.1 (1) dX6_cellOf_42 (by decide) ?_
            refine j_goto F.1 47 dX6_cellOf_43 (by decide) ?_
            refine j_icmp_ne F.1 69 dX6_cellOf_47 (by decide) (fun h47 => False.elim (by revert h47; decide)) (fun _ => ?_)
            refine j_iload_n F.1 dX6_cellOf_50 rfl ?_
            refine j_iconst F.1 (4) dX6_cellOf_51 (by decide) ?_
            refine j_icmp_lt F.1 65 dX6_cellOf_52 (by decide) (fun h52 => ?_) (fun h52 => ?_)
            · refine j_iconst F.1 (1) dX6_cellOf_65 (by decide) ?_
              refine j_goto F.1 70 dX6_cellOf_66 (by decide) ?_
              refine j_istore_n F.1 dX6_cellOf_70 (by rw [hn]; decide) ?_
              refine j_iload_n F.1 dX6_cellOf_71 rfl ?_
              refine j_if_eq F.1 84 dX6_cellOf_72 (by decide) (fun h72 => False.elim (by revert h72; decide)) (fun _ => ?_)
              refine j_aload_n F.1 dX6_cellOf_75 rfl ?_
              refine j_iload_n F.1 dX6_cellOf_76 rfl ?_
              refine j_iload_n F.1 dX6_cellOf_77 rfl ?_
              refine j_callVi F (k_of hi (by omega)) co_X6_of ml_X6_55 im_X6_of se_X6_of in_X6 rc_X6_of rfl (by decide) (by decide) ⟨by decide, rfl⟩ rfl rfl (Nat.le_of_ble_eq_true rfl) dX6_cellOf_78 ?_
              refine j_goto F.1 86 dX6_cellOf_81 (by decide) ?_
              exact j_iret F dX6_cellOf_86 ((rIe (by first | exact absurd h72 (by decide) | exact absurd rfl h72 | exact absurd h47 (by decide) | exact absurd rfl h47 | exact (M_cellOf_t hi (by omega) (by first | exact Or.inl h20 | exact Or.inr ⟨by simp only [h25, h39], Or.inl h52⟩ | exact Or.inr ⟨by simp only [h25, h39], Or.inr h62⟩)).symm | exact (M_cellOf_f hi (by omega) (fun z => by rcases z with z | ⟨z1, z2⟩ <;> first | exact h20 z | (rcases z2 with z2 | z2; exact h52 z2; exact h62 z2) | exact absurd z1 (by simp [h25, h39]; done))).symm) rfl))
            · refine j_aload_n F.1 dX6_cellOf_55 rfl ?_
              refine j_iload_n F.1 dX6_cellOf_56 rfl ?_
              refine j_iconst F.1 (0) dX6_cellOf_57 (by decide) ?_
              refine j_callVi F (k_of (by assumption) (by decide)) co_X6_of ml_X6_55 im_X6_of se_X6_of in_X6 rc_X6_of rfl (by decide) (by decide) ⟨by decide, rfl⟩ rfl rfl (Nat.le_of_ble_eq_true rfl) dX6_cellOf_58 ?_
              refine j_iconst F.1 (5) dX6_cellOf_61 (by decide) ?_
              refine j_icmp_ne F.1 69 dX6_cellOf_62 (by decide) (fun h62 => ?_) (fun h62 => ?_)
              · refine j_iconst F.1 (0) dX6_cellOf_69 (by decide) ?_
                refine j_istore_n F.1 dX6_cellOf_70 (by rw [hn]; decide) ?_
                refine j_iload_n F.1 dX6_cellOf_71 rfl ?_
                refine j_if_eq F.1 84 dX6_cellOf_72 (by decide) (fun _ => ?_) (fun h72 => False.elim (by revert h72; decide))
                refine j_ldc F cn_X6_87 dX6_cellOf_84 ?_
                exact j_iret F dX6_cellOf_86 ((rIe (by first | exact absurd h72 (by decide) | exact absurd rfl h72 | exact absurd h47 (by decide) | exact absurd rfl h47 | exact (M_cellOf_t hi (by omega) (by first | exact Or.inl h20 | exact Or.inr ⟨by simp only [h25, h39], Or.inl h52⟩ | exact Or.inr ⟨by simp only [h25, h39], Or.inr h62⟩)).symm | exact (M_cellOf_f hi (by omega) (fun z => by rcases z with z | ⟨z1, z2⟩ <;> first | exact h20 z | (rcases z2 with z2 | z2; exact h52 z2; exact h62 z2) | exact absurd z1 (by simp [h25, h39]; done))).symm) rfl))
              · refine j_iconst F.1 (1) dX6_cellOf_65 (by decide) ?_
                refine j_goto F.1 70 dX6_cellOf_66 (by decide) ?_
                refine j_istore_n F.1 dX6_cellOf_70 (by rw [hn]; decide) ?_
                refine j_iload_n F.1 dX6_cellOf_71 rfl ?_
                refine j_if_eq F.1 84 dX6_cellOf_72 (by decide) (fun h72 => False.elim (by revert h72; decide)) (fun _ => ?_)
                refine j_aload_n F.1 dX6_cellOf_75 rfl ?_
                refine j_iload_n F.1 dX6_cellOf_76 rfl ?_
                refine j_iload_n F.1 dX6_cellOf_77 rfl ?_
                refine j_callVi F (k_of hi (by omega)) co_X6_of ml_X6_55 im_X6_of se_X6_of in_X6 rc_X6_of rfl (by decide) (by decide) ⟨by decide, rfl⟩ rfl rfl (Nat.le_of_ble_eq_true rfl) dX6_cellOf_78 ?_
                refine j_goto F.1 86 dX6_cellOf_81 (by decide) ?_
                exact j_iret F dX6_cellOf_86 ((rIe (by first | exact absurd h72 (by decide) | exact absurd rfl h72 | exact absurd h47 (by decide) | exact absurd rfl h47 | exact (M_cellOf_t hi (by omega) (by first | exact Or.inl h20 | exact Or.inr ⟨by simp only [h25, h39], Or.inl h52⟩ | exact Or.inr ⟨by simp only [h25, h39], Or.inr h62⟩)).symm | exact (M_cellOf_f hi (by omega) (fun z => by rcases z with z | ⟨z1, z2⟩ <;> first | exact h20 z | (rcases z2 with z2 | z2; exact h52 z2; exact h62 z2) | exact absurd z1 (by simp [h25, h39]; done))).symm) rfl))
    · rw [b2_0] at h13
      refine j_ldc F cn_X6_50 dX6_cellOf_16 ?_
      exact j_iret F dX6_cellOf_18 ((rIe (if_neg (fun z => by first | exact h4 z.1 | exact h13 z.2)).symm rfl))
/-- a use: numbered by the turn -/
def A_uses (f : Nat → Int32) (i : Nat) : Nat → Int32 := upd (upd f 7 (f 7 + 1)) (ix i 13) (f 7 + 1)
set_option maxHeartbeats 4000000 in
set_option maxRecDepth 100000 in
theorem k_uses {Y : rcY} {la : Launch} {v : rcM} {i : Nat} (hi : i < 10) : rcT shM 13 Y la 1 (yX6_uses, cX6_uses, 2, none) [.ref (Y.2.1 0), .int (nI i)] (v) (rV (rcr v 1 (A_uses (v 1) i))) := by
  refine rcT.of (by decide +kernel) (Nat.le_of_ble_eq_true rfl) (fun X F hn => ?_)
  refine j_aload_n F.1 dX6_uses_0 rfl ?_
  refine j_getr F (k := 0) inX6 rfl (by decide) fl_X6_7 ⟨by decide, rfl⟩ rfl dX6_uses_1 ?_
  refine j_bipush F.1 (7) dX6_uses_4 (by decide) ?_
  refine j_dup2 F.1 dX6_uses_6 rfl rfl ?_
  refine j_iald F ⟨by decide, rfl⟩ rfl (by decide) (by decide) dX6_uses_7 ?_
  refine j_iconst F.1 (1) dX6_uses_8 (by decide) ?_
  refine j_iadd F.1 dX6_uses_9 ?_
  refine j_iast F ⟨by decide, rfl⟩ rfl (by decide) (by decide) dX6_uses_10 ?_
  refine j_aload_n F.1 dX6_uses_11 rfl ?_
  refine j_iload_n F.1 dX6_uses_12 rfl ?_
  refine j_bipush F.1 (13) dX6_uses_13 (by decide) ?_
  refine j_aload_n F.1 dX6_uses_15 rfl ?_
  refine j_getr F (k := 0) inX6 rfl (by decide) fl_X6_7 ⟨by decide, rfl⟩ rfl dX6_uses_16 ?_
  refine j_bipush F.1 (7) dX6_uses_19 (by decide) ?_
  refine j_iald F ⟨by decide, rfl⟩ rfl (by decide) (by decide) dX6_uses_21 ?_
  refine j_callVv F (k_puts (by assumption) (by decide)) co_X6_puts ml_X6_63 im_X6_puts se_X6_puts in_X6 rc_X6_puts rfl (by decide) (by decide) ⟨by decide, rfl⟩ rfl rfl (Nat.le_of_ble_eq_true rfl) dX6_uses_22 ?_
  exact j_vret F dX6_uses_25 ((rVe (by rw [rcu_r, rcr_rcr, rcr_s, pk_us]; rfl)))
/-- one of the first n open ones -/
def opn (g : Nat → Int32) (c : Int32) : Nat → Bool
  | 0 => false
  | n + 1 => opn g c n || g n == c
set_option maxHeartbeats 4000000 in
set_option maxRecDepth 100000 in
theorem k_isOpen {Y : rcY} {la : Launch} {v : rcM} {c : Int32} {dp : Nat} (hd : v 0 10 = nI dp) (hdp : dp ≤ 10) : rcT shM 13 Y la 0 (yX6_isOpen, cX6_isOpen, 4, (some .boolean)) [.ref (Y.2.1 0), .int c] (v) (rI (b2 (opn (v 5) c dp = true)) v) := by
  refine rcT.of (by decide +kernel) (Nat.le_of_ble_eq_true rfl) (fun X F hn => ?_)
  have loop : ∀ r t : Nat, t ≤ dp → dp < t + r → rcJ shM 13 Y X (rI (b2 (opn (v 5) c dp = true)) v) 4 [(3, .int (nI t)), (2, .int (b2 (opn (v 5) c t = true))), (0, .ref (Y.2.1 0)), (1, .int c)] [] v := by
    intro r
    induction r with
    | zero => intro t ht hr; omega
    | succ r ih =>
      intro t ht hr
      refine j_iload_n F.1 dX6_isOpen_4 rfl ?_
      refine j_aload_n F.1 dX6_isOpen_5 rfl ?_
      refine j_geti F (k := 10) inX6 rfl (by decide) fl_X6_88 ⟨by decide, rfl⟩ rfl dX6_isOpen_6 ?_
      refine j_top hd ?_
      refine j_icmp_ge F.1 38 dX6_isOpen_9 (by decide) (fun h9 => ?_) (fun h9 => ?_)
      · have q9 : dp ≤ t := (nI_leI (a := dp) (b := t) (by omega) (by omega)).mp h9
        refine j_iload_n F.1 dX6_isOpen_38 rfl ?_
        exact j_zret F (by first | exact Or.inl rfl | exact Or.inr rfl | exact b2_01 _) dX6_isOpen_39 ((rIe (by rw [Nat.le_antisymm ht q9]) rfl))
      · have q9 : t < dp := Nat.lt_of_not_le (fun z => h9 ((nI_leI (a := dp) (b := t) (by omega) (by omega)).mpr z))
        refine j_iload_n F.1 dX6_isOpen_12 rfl ?_
        refine j_if_ne F.1 26 dX6_isOpen_13 (by decide) (fun h13 => ?_) (fun h13 => ?_)
        · refine j_iconst F.1 (1) dX6_isOpen_26 (by decide) ?_
          refine j_goto F.1 31 dX6_isOpen_27 (by decide) ?_
          refine j_top (y := b2 (opn (v 5) c (t + 1) = true)) (by first | (rw [b2_t]; clear F hn ih; simp_all [opn, b2_0]; done) | (rw [b2_f]; clear F hn ih; simp_all [opn, b2_0]; done)) ?_
          refine j_istore_n F.1 dX6_isOpen_31 (by rw [hn]; decide) ?_
          refine j_iinc F.1 (1) dX6_isOpen_32 (by decide) rfl (by rw [hn]; decide) ?_
          refine j_goto F.1 4 dX6_isOpen_35 (by decide) ?_
          refine j_loc [(3, .int (nI (t + 1))), (2, .int (b2 (opn (v 5) c (t + 1) = true))), (0, .ref (Y.2.1 0)), (1, .int c)] (by rw [← nI_1]; rfl) ?_
          exact ih (t + 1) (by omega) (by omega)
        · refine j_aload_n F.1 dX6_isOpen_16 rfl ?_
          refine j_getr F (k := 6) inX6 rfl (by decide) fl_X6_22 ⟨by decide, rfl⟩ rfl dX6_isOpen_17 ?_
          refine j_iload_n F.1 dX6_isOpen_20 rfl ?_
          refine j_iald F ⟨by decide, rfl⟩ rfl (by omega) (by decide) dX6_isOpen_21 ?_
          refine j_iload_n F.1 dX6_isOpen_22 rfl ?_
          refine j_icmp_ne F.1 30 dX6_isOpen_23 (by decide) (fun h23 => ?_) (fun h23 => ?_)
          · refine j_iconst F.1 (0) dX6_isOpen_30 (by decide) ?_
            refine j_top (y := b2 (opn (v 5) c (t + 1) = true)) (by first | (rw [b2_t]; clear F hn ih; simp_all [opn, b2_0]; done) | (rw [b2_f]; clear F hn ih; simp_all [opn, b2_0]; done)) ?_
            refine j_istore_n F.1 dX6_isOpen_31 (by rw [hn]; decide) ?_
            refine j_iinc F.1 (1) dX6_isOpen_32 (by decide) rfl (by rw [hn]; decide) ?_
            refine j_goto F.1 4 dX6_isOpen_35 (by decide) ?_
            refine j_loc [(3, .int (nI (t + 1))), (2, .int (b2 (opn (v 5) c (t + 1) = true))), (0, .ref (Y.2.1 0)), (1, .int c)] (by rw [← nI_1]; rfl) ?_
            exact ih (t + 1) (by omega) (by omega)
          · refine j_iconst F.1 (1) dX6_isOpen_26 (by decide) ?_
            refine j_goto F.1 31 dX6_isOpen_27 (by decide) ?_
            refine j_top (y := b2 (opn (v 5) c (t + 1) = true)) (by first | (rw [b2_t]; clear F hn ih; simp_all [opn, b2_0]; done) | (rw [b2_f]; clear F hn ih; simp_all [opn, b2_0]; done)) ?_
            refine j_istore_n F.1 dX6_isOpen_31 (by rw [hn]; decide) ?_
            refine j_iinc F.1 (1) dX6_isOpen_32 (by decide) rfl (by rw [hn]; decide) ?_
            refine j_goto F.1 4 dX6_isOpen_35 (by decide) ?_
            refine j_loc [(3, .int (nI (t + 1))), (2, .int (b2 (opn (v 5) c (t + 1) = true))), (0, .ref (Y.2.1 0)), (1, .int c)] (by rw [← nI_1]; rfl) ?_
            exact ih (t + 1) (by omega) (by omega)
  refine j_iconst F.1 (0) dX6_isOpen_0 (by decide) ?_
  refine j_istore_n F.1 dX6_isOpen_1 (by rw [hn]; decide) ?_
  refine j_iconst F.1 (0) dX6_isOpen_2 (by decide) ?_
  refine j_istore_n F.1 dX6_isOpen_3 (by rw [hn]; decide) ?_
  refine j_loc [(3, .int (nI 0)), (2, .int (b2 (opn (v 5) c 0 = true))), (0, .ref (Y.2.1 0)), (1, .int c)] rfl ?_
  exact loop (dp + 1) 0 (by omega) (by omega)
