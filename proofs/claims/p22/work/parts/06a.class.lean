/-! The class: a definition, a cell. -/
/-- a definition is laid down -/
def setD (v : rcM) (p : Nat) (a b c d e : Int32) : rcM := rcu (rcu (rcu (rcu (rcu v p 0 a) p 1 b) p 2 c) p 3 d) p 4 e
theorem setD_n {v : rcM} {p q : Nat} {a b c d e : Int32} (h : q ≠ p) : setD v p a b c d e q = v q := by
  unfold setD
  rw [rcu_ne h, rcu_ne h, rcu_ne h, rcu_ne h, rcu_ne h]
theorem setD_0 {v : rcM} {p : Nat} {a b c d e : Int32} : setD v p a b c d e p 0 = a := by
  unfold setD
  rw [rcu_k (by decide), rcu_k (by decide), rcu_k (by decide), rcu_k (by decide), rcu_self]
theorem setD_1 {v : rcM} {p : Nat} {a b c d e : Int32} : setD v p a b c d e p 1 = b := by
  unfold setD
  rw [rcu_k (by decide), rcu_k (by decide), rcu_k (by decide), rcu_self]
theorem setD_2 {v : rcM} {p : Nat} {a b c d e : Int32} : setD v p a b c d e p 2 = c := by
  unfold setD
  rw [rcu_k (by decide), rcu_k (by decide), rcu_self]
theorem setD_3 {v : rcM} {p : Nat} {a b c d e : Int32} : setD v p a b c d e p 3 = d := by
  unfold setD
  rw [rcu_k (by decide), rcu_self]
theorem setD_4 {v : rcM} {p : Nat} {a b c d e : Int32} : setD v p a b c d e p 4 = e := by
  unfold setD
  rw [rcu_self]
abbrev C_like (v : rcM) (p q : Nat) : Prop := v p 0 = v q 0 ∧ v p 1 = v q 1 ∧ v p 2 = v q 2 ∧ v p 3 = v q 3 ∧ v p 4 = v q 4
def C_sec (a s t x : Int32) : Int32 := if a = 4 then (if x = 2000000000 then -1 else if 0 < x then s else t) else s
def C_give1 (a x y : Int32) : Int64 := if a = 0 then x.toInt64 + y.toInt64 else if a = 1 then x.toInt64 - y.toInt64 else if a = 2 then x.toInt64 * y.toInt64 else if a = 3 then (if x < y then y else x).toInt64 else y.toInt64
def C_give (a x y : Int32) : Int32 := if x = 2000000000 ∨ y = 2000000000 then 2000000000 else bnd (C_give1 a x y)
set_option maxHeartbeats 4000000 in
set_option maxRecDepth 100000 in
theorem c_setValue {Y : rcY} {la : Launch} {v : rcM} {p : Nat} (hp : p < 139 ∧ shC p = .inl (1, [0, 0, 0, 0, 0])) {x : Int32} : rcT shC 139 Y la 0 (yX1_setValue, cX1_setValue, 2, none) [.ref (Y.2.1 p), .int x] (v) (rV (setD v p (-1) x 0 0 0)) := by
  refine rcT.of (by decide +kernel) (Nat.le_of_ble_eq_true rfl) (fun X F hn => ?_)
  refine j_aload_n F.1 dX1_setValue_0 rfl ?_
  refine j_iconst F.1 (-1) dX1_setValue_1 (by decide) ?_
  refine j_puti F (k := 0) inX1 tyX1_ok nmX1 rfl (by decide) fl_X1_9 rfl rfl hp rfl dX1_setValue_2 ?_
  refine j_aload_n F.1 dX1_setValue_5 rfl ?_
  refine j_iload_n F.1 dX1_setValue_6 rfl ?_
  refine j_puti F (k := 1) inX1 tyX1_ok nmX1 rfl (by decide) fl_X1_15 rfl rfl hp rfl dX1_setValue_7 ?_
  refine j_aload_n F.1 dX1_setValue_10 rfl ?_
  refine j_iconst F.1 (0) dX1_setValue_11 (by decide) ?_
  refine j_puti F (k := 2) inX1 tyX1_ok nmX1 rfl (by decide) fl_X1_18 rfl rfl hp rfl dX1_setValue_12 ?_
  refine j_aload_n F.1 dX1_setValue_15 rfl ?_
  refine j_iconst F.1 (0) dX1_setValue_16 (by decide) ?_
  refine j_puti F (k := 3) inX1 tyX1_ok nmX1 rfl (by decide) fl_X1_21 rfl rfl hp rfl dX1_setValue_17 ?_
  refine j_aload_n F.1 dX1_setValue_20 rfl ?_
  refine j_iconst F.1 (0) dX1_setValue_21 (by decide) ?_
  refine j_puti F (k := 4) inX1 tyX1_ok nmX1 rfl (by decide) fl_X1_24 rfl rfl hp rfl dX1_setValue_22 ?_
  exact j_vret F dX1_setValue_25 ((rVe rfl))
set_option maxHeartbeats 4000000 in
set_option maxRecDepth 100000 in
theorem c_setFormula {Y : rcY} {la : Launch} {v : rcM} {p : Nat} (hp : p < 139 ∧ shC p = .inl (1, [0, 0, 0, 0, 0])) {a x y z : Int32} : rcT shC 139 Y la 0 (yX1_setFormula, cX1_setFormula, 5, none) [.ref (Y.2.1 p), .int a, .int x, .int y, .int z] (v) (rV (setD v p a 0 x y z)) := by
  refine rcT.of (by decide +kernel) (Nat.le_of_ble_eq_true rfl) (fun X F hn => ?_)
  refine j_aload_n F.1 dX1_setFormula_0 rfl ?_
  refine j_iload_n F.1 dX1_setFormula_1 rfl ?_
  refine j_puti F (k := 0) inX1 tyX1_ok nmX1 rfl (by decide) fl_X1_9 rfl rfl hp rfl dX1_setFormula_2 ?_
  refine j_aload_n F.1 dX1_setFormula_5 rfl ?_
  refine j_iconst F.1 (0) dX1_setFormula_6 (by decide) ?_
  refine j_puti F (k := 1) inX1 tyX1_ok nmX1 rfl (by decide) fl_X1_15 rfl rfl hp rfl dX1_setFormula_7 ?_
  refine j_aload_n F.1 dX1_setFormula_10 rfl ?_
  refine j_iload_n F.1 dX1_setFormula_11 rfl ?_
  refine j_puti F (k := 2) inX1 tyX1_ok nmX1 rfl (by decide) fl_X1_18 rfl rfl hp rfl dX1_setFormula_12 ?_
  refine j_aload_n F.1 dX1_setFormula_15 rfl ?_
  refine j_iload_n F.1 dX1_setFormula_16 rfl ?_
  refine j_puti F (k := 3) inX1 tyX1_ok nmX1 rfl (by decide) fl_X1_21 rfl rfl hp rfl dX1_setFormula_17 ?_
  refine j_aload_n F.1 dX1_setFormula_20 rfl ?_
  refine j_iload F.1 dX1_setFormula_21 rfl ?_
  refine j_puti F (k := 4) inX1 tyX1_ok nmX1 rfl (by decide) fl_X1_24 rfl rfl hp rfl dX1_setFormula_23 ?_
  exact j_vret F dX1_setFormula_26 ((rVe rfl))
set_option maxHeartbeats 4000000 in
set_option maxRecDepth 100000 in
theorem c_dcopy {Y : rcY} {la : Launch} {v : rcM} {p : Nat} (hp : p < 139 ∧ shC p = .inl (1, [0, 0, 0, 0, 0])) {q : Nat} (hq : q < 139 ∧ shC q = .inl (1, [0, 0, 0, 0, 0])) (hne : q ≠ p) : rcT shC 139 Y la 0 (yX1_copy, cX1_copy, 2, none) [.ref (Y.2.1 p), .ref (Y.2.1 q)] (v) (rV (setD v p (v q 0) (v q 1) (v q 2) (v q 3) (v q 4))) := by
  refine rcT.of (by decide +kernel) (Nat.le_of_ble_eq_true rfl) (fun X F hn => ?_)
  refine j_aload_n F.1 dX1_copy_0 rfl ?_
  refine j_aload_n F.1 dX1_copy_1 rfl ?_
  refine j_geti F (k := 0) inX1 rfl (by decide) fl_X1_9 hq rfl dX1_copy_2 ?_
  refine j_top (y := v q 0) (by first | rfl | (repeat rw [rcu_ne hne])) ?_
  refine j_puti F (k := 0) inX1 tyX1_ok nmX1 rfl (by decide) fl_X1_9 rfl rfl hp rfl dX1_copy_5 ?_
  refine j_aload_n F.1 dX1_copy_8 rfl ?_
  refine j_aload_n F.1 dX1_copy_9 rfl ?_
  refine j_geti F (k := 1) inX1 rfl (by decide) fl_X1_15 hq rfl dX1_copy_10 ?_
  refine j_top (y := v q 1) (by first | rfl | (repeat rw [rcu_ne hne])) ?_
  refine j_puti F (k := 1) inX1 tyX1_ok nmX1 rfl (by decide) fl_X1_15 rfl rfl hp rfl dX1_copy_13 ?_
  refine j_aload_n F.1 dX1_copy_16 rfl ?_
  refine j_aload_n F.1 dX1_copy_17 rfl ?_
  refine j_geti F (k := 2) inX1 rfl (by decide) fl_X1_18 hq rfl dX1_copy_18 ?_
  refine j_top (y := v q 2) (by first | rfl | (repeat rw [rcu_ne hne])) ?_
  refine j_puti F (k := 2) inX1 tyX1_ok nmX1 rfl (by decide) fl_X1_18 rfl rfl hp rfl dX1_copy_21 ?_
  refine j_aload_n F.1 dX1_copy_24 rfl ?_
  refine j_aload_n F.1 dX1_copy_25 rfl ?_
  refine j_geti F (k := 3) inX1 rfl (by decide) fl_X1_21 hq rfl dX1_copy_26 ?_
  refine j_top (y := v q 3) (by first | rfl | (repeat rw [rcu_ne hne])) ?_
  refine j_puti F (k := 3) inX1 tyX1_ok nmX1 rfl (by decide) fl_X1_21 rfl rfl hp rfl dX1_copy_29 ?_
  refine j_aload_n F.1 dX1_copy_32 rfl ?_
  refine j_aload_n F.1 dX1_copy_33 rfl ?_
  refine j_geti F (k := 4) inX1 rfl (by decide) fl_X1_24 hq rfl dX1_copy_34 ?_
  refine j_top (y := v q 4) (by first | rfl | (repeat rw [rcu_ne hne])) ?_
  refine j_puti F (k := 4) inX1 tyX1_ok nmX1 rfl (by decide) fl_X1_24 rfl rfl hp rfl dX1_copy_37 ?_
  exact j_vret F dX1_copy_40 ((rVe rfl))
set_option maxHeartbeats 4000000 in
set_option maxRecDepth 100000 in
theorem c_isLike {Y : rcY} {la : Launch} {v : rcM} {p : Nat} (hp : p < 139 ∧ shC p = .inl (1, [0, 0, 0, 0, 0])) {q : Nat} (hq : q < 139 ∧ shC q = .inl (1, [0, 0, 0, 0, 0])) : rcT shC 139 Y la 0 (yX1_isLike, cX1_isLike, 2, (some .boolean)) [.ref (Y.2.1 p), .ref (Y.2.1 q)] (v) (rI (b2 (C_like v p q)) v) := by
  refine rcT.of (by decide +kernel) (Nat.le_of_ble_eq_true rfl) (fun X F hn => ?_)
  refine j_aload_n F.1 dX1_isLike_0 rfl ?_
  refine j_geti F (k := 0) inX1 rfl (by decide) fl_X1_9 hp rfl dX1_isLike_1 ?_
  refine j_aload_n F.1 dX1_isLike_4 rfl ?_
  refine j_geti F (k := 0) inX1 rfl (by decide) fl_X1_9 hq rfl dX1_isLike_5 ?_
  refine j_icmp_ne F.1 59 dX1_isLike_8 (by decide) (fun h8 => ?_) (fun h8 => ?_)
  · have hz : ¬ C_like v p q := fun z => h8 z.1
    refine j_iconst F.1 (0) dX1_isLike_59 (by decide) ?_
    exact j_zret F (by first | exact Or.inl rfl | exact Or.inr rfl | exact b2_01 _) dX1_isLike_60 ((rIe (by first | exact (b2_t hz).symm | exact (b2_f hz).symm) rfl))
  · refine j_aload_n F.1 dX1_isLike_11 rfl ?_
    refine j_geti F (k := 1) inX1 rfl (by decide) fl_X1_15 hp rfl dX1_isLike_12 ?_
    refine j_aload_n F.1 dX1_isLike_15 rfl ?_
    refine j_geti F (k := 1) inX1 rfl (by decide) fl_X1_15 hq rfl dX1_isLike_16 ?_
    refine j_icmp_ne F.1 59 dX1_isLike_19 (by decide) (fun h19 => ?_) (fun h19 => ?_)
    · have hz : ¬ C_like v p q := fun z => h19 z.2.1
      refine j_iconst F.1 (0) dX1_isLike_59 (by decide) ?_
      exact j_zret F (by first | exact Or.inl rfl | exact Or.inr rfl | exact b2_01 _) dX1_isLike_60 ((rIe (by first | exact (b2_t hz).symm | exact (b2_f hz).symm) rfl))
    · refine j_aload_n F.1 dX1_isLike_22 rfl ?_
      refine j_geti F (k := 2) inX1 rfl (by decide) fl_X1_18 hp rfl dX1_isLike_23 ?_
      refine j_aload_n F.1 dX1_isLike_26 rfl ?_
      refine j_geti F (k := 2) inX1 rfl (by decide) fl_X1_18 hq rfl dX1_isLike_27 ?_
      refine j_icmp_ne F.1 59 dX1_isLike_30 (by decide) (fun h30 => ?_) (fun h30 => ?_)
      · have hz : ¬ C_like v p q := fun z => h30 z.2.2.1
        refine j_iconst F.1 (0) dX1_isLike_59 (by decide) ?_
        exact j_zret F (by first | exact Or.inl rfl | exact Or.inr rfl | exact b2_01 _) dX1_isLike_60 ((rIe (by first | exact (b2_t hz).symm | exact (b2_f hz).symm) rfl))
      · refine j_aload_n F.1 dX1_isLike_33 rfl ?_
        refine j_geti F (k := 3) inX1 rfl (by decide) fl_X1_21 hp rfl dX1_isLike_34 ?_
        refine j_aload_n F.1 dX1_isLike_37 rfl ?_
        refine j_geti F (k := 3) inX1 rfl (by decide) fl_X1_21 hq rfl dX1_isLike_38 ?_
        refine j_icmp_ne F.1 59 dX1_isLike_41 (by decide) (fun h41 => ?_) (fun h41 => ?_)
        · have hz : ¬ C_like v p q := fun z => h41 z.2.2.2.1
          refine j_iconst F.1 (0) dX1_isLike_59 (by decide) ?_
          exact j_zret F (by first | exact Or.inl rfl | exact Or.inr rfl | exact b2_01 _) dX1_isLike_60 ((rIe (by first | exact (b2_t hz).symm | exact (b2_f hz).symm) rfl))
        · refine j_aload_n F.1 dX1_isLike_44 rfl ?_
          refine j_geti F (k := 4) inX1 rfl (by decide) fl_X1_24 hp rfl dX1_isLike_45 ?_
          refine j_aload_n F.1 dX1_isLike_48 rfl ?_
          refine j_geti F (k := 4) inX1 rfl (by decide) fl_X1_24 hq rfl dX1_isLike_49 ?_
          refine j_icmp_ne F.1 59 dX1_isLike_52 (by decide) (fun h52 => ?_) (fun h52 => ?_)
          · have hz : ¬ C_like v p q := fun z => h52 z.2.2.2.2
            refine j_iconst F.1 (0) dX1_isLike_59 (by decide) ?_
            exact j_zret F (by first | exact Or.inl rfl | exact Or.inr rfl | exact b2_01 _) dX1_isLike_60 ((rIe (by first | exact (b2_t hz).symm | exact (b2_f hz).symm) rfl))
          · have hz : C_like v p q := ⟨h8, h19, h30, h41, h52⟩
            refine j_iconst F.1 (1) dX1_isLike_55 (by decide) ?_
            refine j_goto F.1 60 dX1_isLike_56 (by decide) ?_
            exact j_zret F (by first | exact Or.inl rfl | exact Or.inr rfl | exact b2_01 _) dX1_isLike_60 ((rIe (by first | exact (b2_t hz).symm | exact (b2_f hz).symm) rfl))
set_option maxHeartbeats 4000000 in
set_option maxRecDepth 100000 in
theorem c_secondFor {Y : rcY} {la : Launch} {v : rcM} {p : Nat} (hp : p < 139 ∧ shC p = .inl (1, [0, 0, 0, 0, 0])) {x : Int32} : rcT shC 139 Y la 0 (yX1_secondFor, cX1_secondFor, 2, (some .int)) [.ref (Y.2.1 p), .int x] (v) (rI (C_sec (v p 0) (v p 3) (v p 4) x) v) := by
  refine rcT.of (by decide +kernel) (Nat.le_of_ble_eq_true rfl) (fun X F hn => ?_)
  refine j_aload_n F.1 dX1_secondFor_0 rfl ?_
  refine j_geti F (k := 0) inX1 rfl (by decide) fl_X1_9 hp rfl dX1_secondFor_1 ?_
  refine j_iconst F.1 (4) dX1_secondFor_4 (by decide) ?_
  refine j_icmp_eq F.1 13 dX1_secondFor_5 (by decide) (fun h5 => ?_) (fun h5 => ?_)
  · refine j_iload_n F.1 dX1_secondFor_13 rfl ?_
    refine j_ldc F cn_X1_27 dX1_secondFor_14 ?_
    refine j_icmp_ne F.1 21 dX1_secondFor_16 (by decide) (fun h16 => ?_) (fun h16 => ?_)
    · refine j_iload_n F.1 dX1_secondFor_21 rfl ?_
      refine j_if_le F.1 32 dX1_secondFor_22 (by decide) (fun h22 => ?_) (fun h22 => ?_)
      · refine j_aload_n F.1 dX1_secondFor_32 rfl ?_
        refine j_geti F (k := 4) inX1 rfl (by decide) fl_X1_24 hp rfl dX1_secondFor_33 ?_
        exact j_iret F dX1_secondFor_36 ((rIe (by unfold C_sec; rw [if_pos h5, if_neg h16]; first | rw [if_neg (Int32.not_lt.mpr h22)] | rw [if_pos (Int32.not_le.mp h22)]) rfl))
      · refine j_aload_n F.1 dX1_secondFor_25 rfl ?_
        refine j_geti F (k := 3) inX1 rfl (by decide) fl_X1_21 hp rfl dX1_secondFor_26 ?_
        refine j_goto F.1 36 dX1_secondFor_29 (by decide) ?_
        exact j_iret F dX1_secondFor_36 ((rIe (by unfold C_sec; rw [if_pos h5, if_neg h16]; first | rw [if_neg (Int32.not_lt.mpr h22)] | rw [if_pos (Int32.not_le.mp h22)]) rfl))
    · refine j_iconst F.1 (-1) dX1_secondFor_19 (by decide) ?_
      exact j_iret F dX1_secondFor_20 ((rIe (by unfold C_sec; rw [if_pos h5, if_pos h16]) rfl))
  · refine j_aload_n F.1 dX1_secondFor_8 rfl ?_
    refine j_geti F (k := 3) inX1 rfl (by decide) fl_X1_21 hp rfl dX1_secondFor_9 ?_
    exact j_iret F dX1_secondFor_12 ((rIe (by unfold C_sec; rw [if_neg h5]) rfl))
theorem bnd_t {z : Int64} (h : z < -1000000000 ∨ 1000000000 < z) : 2000000000 = bnd z := by unfold bnd; rw [if_pos h]
theorem bnd_f {z : Int64} (h1 : ¬ z < -1000000000) (h2 : ¬ 1000000000 < z) : z.toInt32 = bnd z := by unfold bnd; rw [if_neg (fun q => q.elim h1 h2)]
theorem give_lf {a x y : Int32} {z : Int64} (h3 : ¬ x = 2000000000) (h9 : ¬ y = 2000000000) (hz : C_give1 a x y = z) {r : Int32} (hr : r = bnd z) : r = C_give a x y := by
  unfold C_give
  rw [if_neg (fun q => q.elim h3 h9), hz, hr]
set_option maxHeartbeats 4000000 in
set_option maxRecDepth 100000 in
theorem c_give {Y : rcY} {la : Launch} {v : rcM} {p : Nat} (hp : p < 139 ∧ shC p = .inl (1, [0, 0, 0, 0, 0])) {x y : Int32} : rcT shC 139 Y la 1 (yX1_give, cX1_give, 5, (some .int)) [.ref (Y.2.1 p), .int x, .int y] (v) (rI (C_give (v p 0) x y) v) := by
  refine rcT.of (by decide +kernel) (Nat.le_of_ble_eq_true rfl) (fun X F hn => ?_)
  refine j_iload_n F.1 dX1_give_0 rfl ?_
  refine j_ldc F cn_X1_27 dX1_give_1 ?_
  refine j_icmp_eq F.1 12 dX1_give_3 (by decide) (fun h3 => ?_) (fun h3 => ?_)
  · refine j_ldc F cn_X1_27 dX1_give_12 ?_
    exact j_iret F dX1_give_14 ((rIe (by unfold C_give; rw [if_pos (by first | exact Or.inl h3 | exact Or.inr h9)]) rfl))
  · refine j_iload_n F.1 dX1_give_6 rfl ?_
    refine j_ldc F cn_X1_27 dX1_give_7 ?_
    refine j_icmp_ne F.1 15 dX1_give_9 (by decide) (fun h9 => ?_) (fun h9 => ?_)
    · refine j_iload_n F.1 dX1_give_15 rfl ?_
      refine j_i2l F.1 dX1_give_16 ?_
      refine j_lstore_n F.1 dX1_give_17 (by rw [hn]; decide) ?_
      refine j_aload_n F.1 dX1_give_18 rfl ?_
      refine j_geti F (k := 0) inX1 rfl (by decide) fl_X1_9 hp rfl dX1_give_19 ?_
      by_cases h22_0 : v p 0 = 0
      · refine j_tableIn F.1 52 dX1_give_22 (by rw [h22_0]; decide) (by rw [h22_0]; decide) (by rw [h22_0]; rfl) (by decide) ?_
        have hz : C_give1 (v p 0) x y = x.toInt64 + y.toInt64 := by unfold C_give1; rw [if_pos h22_0]
        refine j_iload_n F.1 dX1_give_52 rfl ?_
        refine j_i2l F.1 dX1_give_53 ?_
        refine j_iload_n F.1 dX1_give_54 rfl ?_
        refine j_i2l F.1 dX1_give_55 ?_
        refine j_ladd F.1 dX1_give_56 ?_
        refine j_lstore_n F.1 dX1_give_57 (by rw [hn]; decide) ?_
        refine j_goto F.1 89 dX1_give_58 (by decide) ?_
        refine j_lload_n F.1 dX1_give_89 rfl ?_
        refine j_ldc2 F cl_X1_34 dX1_give_90 ?_
        refine j_lcmp F.1 dX1_give_93 ?_
        refine j_if_lt F.1 105 dX1_give_94 (by decide) (fun h94 => ?_) (fun h94 => ?_)
        · rw [lg_cmp_lt] at h94
          refine j_ldc F cn_X1_27 dX1_give_105 ?_
          refine j_goto F.1 112 dX1_give_107 (by decide) ?_
          exact j_iret F dX1_give_112 ((rIe (give_lf h3 h9 hz (by first | exact bnd_t (Or.inl h94) | exact bnd_t (Or.inr (Int64.not_le.mp h102)) | exact bnd_f h94 (Int64.not_lt.mpr h102))) rfl))
        · rw [lg_cmp_lt] at h94
          refine j_lload_n F.1 dX1_give_97 rfl ?_
          refine j_ldc2 F cl_X1_36 dX1_give_98 ?_
          refine j_lcmp F.1 dX1_give_101 ?_
          refine j_if_le F.1 110 dX1_give_102 (by decide) (fun h102 => ?_) (fun h102 => ?_)
          · rw [lg_cmp_le] at h102
            refine j_lload_n F.1 dX1_give_110 rfl ?_
            refine j_l2i F.1 dX1_give_111 ?_
            exact j_iret F dX1_give_112 ((rIe (give_lf h3 h9 hz (by first | exact bnd_t (Or.inl h94) | exact bnd_t (Or.inr (Int64.not_le.mp h102)) | exact bnd_f h94 (Int64.not_lt.mpr h102))) rfl))
          · rw [lg_cmp_le] at h102
            refine j_ldc F cn_X1_27 dX1_give_105 ?_
            refine j_goto F.1 112 dX1_give_107 (by decide) ?_
            exact j_iret F dX1_give_112 ((rIe (give_lf h3 h9 hz (by first | exact bnd_t (Or.inl h94) | exact bnd_t (Or.inr (Int64.not_le.mp h102)) | exact bnd_f h94 (Int64.not_lt.mpr h102))) rfl))
      by_cases h22_1 : v p 0 = 1
      · refine j_tableIn F.1 61 dX1_give_22 (by rw [h22_1]; decide) (by rw [h22_1]; decide) (by rw [h22_1]; rfl) (by decide) ?_
        have hz : C_give1 (v p 0) x y = x.toInt64 - y.toInt64 := by unfold C_give1; rw [if_neg h22_0, if_pos h22_1]
        refine j_iload_n F.1 dX1_give_61 rfl ?_
        refine j_i2l F.1 dX1_give_62 ?_
        refine j_iload_n F.1 dX1_give_63 rfl ?_
        refine j_i2l F.1 dX1_give_64 ?_
        refine j_lsub F.1 dX1_give_65 ?_
        refine j_lstore_n F.1 dX1_give_66 (by rw [hn]; decide) ?_
        refine j_goto F.1 89 dX1_give_67 (by decide) ?_
        refine j_lload_n F.1 dX1_give_89 rfl ?_
        refine j_ldc2 F cl_X1_34 dX1_give_90 ?_
        refine j_lcmp F.1 dX1_give_93 ?_
        refine j_if_lt F.1 105 dX1_give_94 (by decide) (fun h94 => ?_) (fun h94 => ?_)
        · rw [lg_cmp_lt] at h94
          refine j_ldc F cn_X1_27 dX1_give_105 ?_
          refine j_goto F.1 112 dX1_give_107 (by decide) ?_
          exact j_iret F dX1_give_112 ((rIe (give_lf h3 h9 hz (by first | exact bnd_t (Or.inl h94) | exact bnd_t (Or.inr (Int64.not_le.mp h102)) | exact bnd_f h94 (Int64.not_lt.mpr h102))) rfl))
        · rw [lg_cmp_lt] at h94
          refine j_lload_n F.1 dX1_give_97 rfl ?_
          refine j_ldc2 F cl_X1_36 dX1_give_98 ?_
          refine j_lcmp F.1 dX1_give_101 ?_
          refine j_if_le F.1 110 dX1_give_102 (by decide) (fun h102 => ?_) (fun h102 => ?_)
          · rw [lg_cmp_le] at h102
            refine j_lload_n F.1 dX1_give_110 rfl ?_
            refine j_l2i F.1 dX1_give_111 ?_
            exact j_iret F dX1_give_112 ((rIe (give_lf h3 h9 hz (by first | exact bnd_t (Or.inl h94) | exact bnd_t (Or.inr (Int64.not_le.mp h102)) | exact bnd_f h94 (Int64.not_lt.mpr h102))) rfl))
          · rw [lg_cmp_le] at h102
            refine j_ldc F cn_X1_27 dX1_give_105 ?_
            refine j_goto F.1 112 dX1_give_107 (by decide) ?_
            exact j_iret F dX1_give_112 ((rIe (give_lf h3 h9 hz (by first | exact bnd_t (Or.inl h94) | exact bnd_t (Or.inr (Int64.not_le.mp h102)) | exact bnd_f h94 (Int64.not_lt.mpr h102))) rfl))
      by_cases h22_2 : v p 0 = 2
      · refine j_tableIn F.1 70 dX1_give_22 (by rw [h22_2]; decide) (by rw [h22_2]; decide) (by rw [h22_2]; rfl) (by decide) ?_
        have hz : C_give1 (v p 0) x y = x.toInt64 * y.toInt64 := by unfold C_give1; rw [if_neg h22_0, if_neg h22_1, if_pos h22_2]
        refine j_iload_n F.1 dX1_give_70 rfl ?_
        refine j_i2l F.1 dX1_give_71 ?_
        refine j_iload_n F.1 dX1_give_72 rfl ?_
        refine j_i2l F.1 dX1_give_73 ?_
        refine j_lmul F.1 dX1_give_74 ?_
        refine j_lstore_n F.1 dX1_give_75 (by rw [hn]; decide) ?_
        refine j_goto F.1 89 dX1_give_76 (by decide) ?_
        refine j_lload_n F.1 dX1_give_89 rfl ?_
        refine j_ldc2 F cl_X1_34 dX1_give_90 ?_
        refine j_lcmp F.1 dX1_give_93 ?_
        refine j_if_lt F.1 105 dX1_give_94 (by decide) (fun h94 => ?_) (fun h94 => ?_)
        · rw [lg_cmp_lt] at h94
          refine j_ldc F cn_X1_27 dX1_give_105 ?_
          refine j_goto F.1 112 dX1_give_107 (by decide) ?_
          exact j_iret F dX1_give_112 ((rIe (give_lf h3 h9 hz (by first | exact bnd_t (Or.inl h94) | exact bnd_t (Or.inr (Int64.not_le.mp h102)) | exact bnd_f h94 (Int64.not_lt.mpr h102))) rfl))
        · rw [lg_cmp_lt] at h94
          refine j_lload_n F.1 dX1_give_97 rfl ?_
          refine j_ldc2 F cl_X1_36 dX1_give_98 ?_
          refine j_lcmp F.1 dX1_give_101 ?_
          refine j_if_le F.1 110 dX1_give_102 (by decide) (fun h102 => ?_) (fun h102 => ?_)
          · rw [lg_cmp_le] at h102
            refine j_lload_n F.1 dX1_give_110 rfl ?_
            refine j_l2i F.1 dX1_give_111 ?_
            exact j_iret F dX1_give_112 ((rIe (give_lf h3 h9 hz (by first | exact bnd_t (Or.inl h94) | exact bnd_t (Or.inr (Int64.not_le.mp h102)) | exact bnd_f h94 (Int64.not_lt.mpr h102))) rfl))
          · rw [lg_cmp_le] at h102
            refine j_ldc F cn_X1_27 dX1_give_105 ?_
            refine j_goto F.1 112 dX1_give_107 (by decide) ?_
            exact j_iret F dX1_give_112 ((rIe (give_lf h3 h9 hz (by first | exact bnd_t (Or.inl h94) | exact bnd_t (Or.inr (Int64.not_le.mp h102)) | exact bnd_f h94 (Int64.not_lt.mpr h102))) rfl))
      by_cases h22_3 : v p 0 = 3
      · refine j_tableIn F.1 79 dX1_give_22 (by rw [h22_3]; decide) (by rw [h22_3]; decide) (by rw [h22_3]; rfl) (by decide) ?_
        have hz : C_give1 (v p 0) x y = (if x < y then y else x).toInt64 := by unfold C_give1; rw [if_neg h22_0, if_neg h22_1, if_neg h22_2, if_pos h22_3]
        refine j_iload_n F.1 dX1_give_79 rfl ?_
        refine j_iload_n F.1 dX1_give_80 rfl ?_
        refine j_max F ml_X1_28 st_J9_max_7cf53 in_J9 co_J9_max_7cf53 (by decide) (Nat.le_of_ble_eq_true rfl) dX1_give_81 ?_
        refine j_i2l F.1 dX1_give_84 ?_
        refine j_lstore_n F.1 dX1_give_85 (by rw [hn]; decide) ?_
        refine j_goto F.1 89 dX1_give_86 (by decide) ?_
        refine j_lload_n F.1 dX1_give_89 rfl ?_
        refine j_ldc2 F cl_X1_34 dX1_give_90 ?_
        refine j_lcmp F.1 dX1_give_93 ?_
        refine j_if_lt F.1 105 dX1_give_94 (by decide) (fun h94 => ?_) (fun h94 => ?_)
        · rw [lg_cmp_lt] at h94
          refine j_ldc F cn_X1_27 dX1_give_105 ?_
          refine j_goto F.1 112 dX1_give_107 (by decide) ?_
          exact j_iret F dX1_give_112 ((rIe (give_lf h3 h9 hz (by first | exact bnd_t (Or.inl h94) | exact bnd_t (Or.inr (Int64.not_le.mp h102)) | exact bnd_f h94 (Int64.not_lt.mpr h102))) rfl))
        · rw [lg_cmp_lt] at h94
          refine j_lload_n F.1 dX1_give_97 rfl ?_
          refine j_ldc2 F cl_X1_36 dX1_give_98 ?_
          refine j_lcmp F.1 dX1_give_101 ?_
          refine j_if_le F.1 110 dX1_give_102 (by decide) (fun h102 => ?_) (fun h102 => ?_)
          · rw [lg_cmp_le] at h102
            refine j_lload_n F.1 dX1_give_110 rfl ?_
            refine j_l2i F.1 dX1_give_111 ?_
            exact j_iret F dX1_give_112 ((rIe (give_lf h3 h9 hz (by first | exact bnd_t (Or.inl h94) | exact bnd_t (Or.inr (Int64.not_le.mp h102)) | exact bnd_f h94 (Int64.not_lt.mpr h102))) rfl))
          · rw [lg_cmp_le] at h102
            refine j_ldc F cn_X1_27 dX1_give_105 ?_
            refine j_goto F.1 112 dX1_give_107 (by decide) ?_
            exact j_iret F dX1_give_112 ((rIe (give_lf h3 h9 hz (by first | exact bnd_t (Or.inl h94) | exact bnd_t (Or.inr (Int64.not_le.mp h102)) | exact bnd_f h94 (Int64.not_lt.mpr h102))) rfl))
      refine j_tableOut F.1 89 dX1_give_22 (by have a0 : (v p 0).toInt ≠ 0 := fun z => h22_0 (Int32.toInt_inj.mp (by rw [z]; rfl)); have a1 : (v p 0).toInt ≠ 1 := fun z => h22_1 (Int32.toInt_inj.mp (by rw [z]; rfl)); have a2 : (v p 0).toInt ≠ 2 := fun z => h22_2 (Int32.toInt_inj.mp (by rw [z]; rfl)); have a3 : (v p 0).toInt ≠ 3 := fun z => h22_3 (Int32.toInt_inj.mp (by rw [z]; rfl)); omega) (by decide) ?_
      have hz : C_give1 (v p 0) x y = y.toInt64 := by unfold C_give1; rw [if_neg h22_0, if_neg h22_1, if_neg h22_2, if_neg h22_3]
      refine j_lload_n F.1 dX1_give_89 rfl ?_
      refine j_ldc2 F cl_X1_34 dX1_give_90 ?_
      refine j_lcmp F.1 dX1_give_93 ?_
      refine j_if_lt F.1 105 dX1_give_94 (by decide) (fun h94 => ?_) (fun h94 => ?_)
      · rw [lg_cmp_lt] at h94
        refine j_ldc F cn_X1_27 dX1_give_105 ?_
        refine j_goto F.1 112 dX1_give_107 (by decide) ?_
        exact j_iret F dX1_give_112 ((rIe (give_lf h3 h9 hz (by first | exact bnd_t (Or.inl h94) | exact bnd_t (Or.inr (Int64.not_le.mp h102)) | exact bnd_f h94 (Int64.not_lt.mpr h102))) rfl))
      · rw [lg_cmp_lt] at h94
        refine j_lload_n F.1 dX1_give_97 rfl ?_
        refine j_ldc2 F cl_X1_36 dX1_give_98 ?_
        refine j_lcmp F.1 dX1_give_101 ?_
        refine j_if_le F.1 110 dX1_give_102 (by decide) (fun h102 => ?_) (fun h102 => ?_)
        · rw [lg_cmp_le] at h102
          refine j_lload_n F.1 dX1_give_110 rfl ?_
          refine j_l2i F.1 dX1_give_111 ?_
          exact j_iret F dX1_give_112 ((rIe (give_lf h3 h9 hz (by first | exact bnd_t (Or.inl h94) | exact bnd_t (Or.inr (Int64.not_le.mp h102)) | exact bnd_f h94 (Int64.not_lt.mpr h102))) rfl))
        · rw [lg_cmp_le] at h102
          refine j_ldc F cn_X1_27 dX1_give_105 ?_
          refine j_goto F.1 112 dX1_give_107 (by decide) ?_
          exact j_iret F dX1_give_112 ((rIe (give_lf h3 h9 hz (by first | exact bnd_t (Or.inl h94) | exact bnd_t (Or.inr (Int64.not_le.mp h102)) | exact bnd_f h94 (Int64.not_lt.mpr h102))) rfl))
    · refine j_ldc F cn_X1_27 dX1_give_12 ?_
      exact j_iret F dX1_give_14 ((rIe (by unfold C_give; rw [if_pos (by first | exact Or.inl h3 | exact Or.inr h9)]) rfl))
/-- a cell is copied -/
def copyC (v : rcM) (p q : Nat) : rcM := rcu (rcu (rcu (rcu (rcu (rcu (rcu (setD v (p + 10) (v (q + 10) 0) (v (q + 10) 1) (v (q + 10) 2) (v (q + 10) 3) (v (q + 10) 4)) p 1 (v q 1)) p 2 (rcb (v q 2))) p 3 (v q 3)) p 4 (v q 4)) p 5 (v q 5)) p 6 (v q 6)) p 7 0
theorem did_c {k i k2 i2 : Nat} (hi : i < 10) (hi2 : i2 < 10) : cid k2 i2 ≠ cid k i + 10 := by show i2 + (22 * k2 + 9) ≠ i + (22 * k + 9) + 10; omega
theorem cid_inj {k i k2 i2 : Nat} (hi : i < 10) (hi2 : i2 < 10) (h : k ≠ k2) : cid k2 i2 ≠ cid k i := by show i2 + (22 * k2 + 9) ≠ i + (22 * k + 9); omega
set_option maxHeartbeats 4000000 in
set_option maxRecDepth 100000 in
theorem c_ccopy {Y : rcY} {la : Launch} {v : rcM} {k i k2 i2 : Nat} (hk : k < 6) (hi : i < 10) (hk2 : k2 < 6) (hi2 : i2 < 10) (hne : k ≠ k2) : rcT shC 139 Y la 1 (yX0_copy, cX0_copy, 2, none) [.ref (Y.2.1 (cid k i)), .ref (Y.2.1 (cid k2 i2))] (v) (rV (copyC v (cid k i) (cid k2 i2))) := by
  refine rcT.of (by decide +kernel) (Nat.le_of_ble_eq_true rfl) (fun X F hn => ?_)
  refine j_aload_n F.1 dX0_copy_0 rfl ?_
  refine j_getr F (k := 0) inX0 rfl (by decide) fl_X0_12 (sh_cell hk hi) rfl dX0_copy_1 ?_
  refine j_aload_n F.1 dX0_copy_4 rfl ?_
  refine j_getr F (k := 0) inX0 rfl (by decide) fl_X0_12 (sh_cell hk2 hi2) rfl dX0_copy_5 ?_
  refine j_callVv F (c_dcopy (sh_def hk hi) (sh_def hk2 hi2) (show did k2 i2 ≠ did k i by show i2 + (22 * k2 + 9) + 10 ≠ i + (22 * k + 9) + 10; omega)) co_X1_copy ml_X0_22 im_X1_copy se_X1_copy in_X1 rc_X1_copy rfl (by decide) (by decide) (sh_def hk hi) rfl rfl (Nat.le_of_ble_eq_true rfl) dX0_copy_8 ?_
  refine j_aload_n F.1 dX0_copy_11 rfl ?_
  refine j_aload_n F.1 dX0_copy_12 rfl ?_
  refine j_geti F (k := 1) inX0 rfl (by decide) fl_X0_26 (sh_cell hk2 hi2) rfl dX0_copy_13 ?_
  refine j_top (y := v (cid k2 i2) 1) (by rw [setD_n (did_c hi hi2)]) ?_
  refine j_puti F (k := 1) inX0 tyX0_ok nmX0 rfl (by decide) fl_X0_26 rfl rfl (sh_cell hk hi) rfl dX0_copy_16 ?_
  refine j_aload_n F.1 dX0_copy_19 rfl ?_
  refine j_aload_n F.1 dX0_copy_20 rfl ?_
  refine j_getz F (k := 2) inX0 rfl (by decide) fl_X0_29 (sh_cell hk2 hi2) rfl dX0_copy_21 ?_
  refine j_top (y := rcb (v (cid k2 i2) 2)) (by rw [rcu_ne (cid_inj hi hi2 hne), setD_n (did_c hi hi2)]) ?_
  refine j_putz F (k := 2) inX0 tyX0_ok nmX0 rfl (by decide) fl_X0_29 rfl rfl (sh_cell hk hi) rfl (by first | exact Or.inl rfl | exact Or.inr rfl | exact rcb_01 _) dX0_copy_24 ?_
  refine j_aload_n F.1 dX0_copy_27 rfl ?_
  refine j_aload_n F.1 dX0_copy_28 rfl ?_
  refine j_geti F (k := 3) inX0 rfl (by decide) fl_X0_33 (sh_cell hk2 hi2) rfl dX0_copy_29 ?_
  refine j_top (y := v (cid k2 i2) 3) (by rw [rcu_ne (cid_inj hi hi2 hne), rcu_ne (cid_inj hi hi2 hne), setD_n (did_c hi hi2)]) ?_
  refine j_puti F (k := 3) inX0 tyX0_ok nmX0 rfl (by decide) fl_X0_33 rfl rfl (sh_cell hk hi) rfl dX0_copy_32 ?_
  refine j_aload_n F.1 dX0_copy_35 rfl ?_
  refine j_aload_n F.1 dX0_copy_36 rfl ?_
  refine j_geti F (k := 4) inX0 rfl (by decide) fl_X0_36 (sh_cell hk2 hi2) rfl dX0_copy_37 ?_
  refine j_top (y := v (cid k2 i2) 4) (by rw [rcu_ne (cid_inj hi hi2 hne), rcu_ne (cid_inj hi hi2 hne), rcu_ne (cid_inj hi hi2 hne), setD_n (did_c hi hi2)]) ?_
  refine j_puti F (k := 4) inX0 tyX0_ok nmX0 rfl (by decide) fl_X0_36 rfl rfl (sh_cell hk hi) rfl dX0_copy_40 ?_
  refine j_aload_n F.1 dX0_copy_43 rfl ?_
  refine j_aload_n F.1 dX0_copy_44 rfl ?_
  refine j_geti F (k := 5) inX0 rfl (by decide) fl_X0_18 (sh_cell hk2 hi2) rfl dX0_copy_45 ?_
  refine j_top (y := v (cid k2 i2) 5) (by rw [rcu_ne (cid_inj hi hi2 hne), rcu_ne (cid_inj hi hi2 hne), rcu_ne (cid_inj hi hi2 hne), rcu_ne (cid_inj hi hi2 hne), setD_n (did_c hi hi2)]) ?_
  refine j_puti F (k := 5) inX0 tyX0_ok nmX0 rfl (by decide) fl_X0_18 rfl rfl (sh_cell hk hi) rfl dX0_copy_48 ?_
  refine j_aload_n F.1 dX0_copy_51 rfl ?_
  refine j_aload_n F.1 dX0_copy_52 rfl ?_
  refine j_geti F (k := 6) inX0 rfl (by decide) fl_X0_39 (sh_cell hk2 hi2) rfl dX0_copy_53 ?_
  refine j_top (y := v (cid k2 i2) 6) (by rw [rcu_ne (cid_inj hi hi2 hne), rcu_ne (cid_inj hi hi2 hne), rcu_ne (cid_inj hi hi2 hne), rcu_ne (cid_inj hi hi2 hne), rcu_ne (cid_inj hi hi2 hne), setD_n (did_c hi hi2)]) ?_
  refine j_puti F (k := 6) inX0 tyX0_ok nmX0 rfl (by decide) fl_X0_39 rfl rfl (sh_cell hk hi) rfl dX0_copy_56 ?_
  refine j_aload_n F.1 dX0_copy_59 rfl ?_
  refine j_iconst F.1 (0) dX0_copy_60 (by decide) ?_
  refine j_putz F (k := 7) inX0 tyX0_ok nmX0 rfl (by decide) fl_X0_42 rfl rfl (sh_cell hk hi) rfl (by first | exact Or.inl rfl | exact Or.inr rfl | exact rcb_01 _) dX0_copy_61 ?_
  exact j_vret F dX0_copy_64 ((rVe (by unfold copyC; rfl)))
def C_told (v : rcM) (p : Nat) : Int32 := if v (p + 10) 0 = -1 then v (p + 10) 1 else v p 3
set_option maxHeartbeats 4000000 in
set_option maxRecDepth 100000 in
theorem c_told {Y : rcY} {la : Launch} {v : rcM} {k i : Nat} (hk : k < 6) (hi : i < 10) : rcT shC 139 Y la 0 (yX0_told, cX0_told, 1, (some .int)) [.ref (Y.2.1 (cid k i))] (v) (rI (C_told v (cid k i)) v) := by
  refine rcT.of (by decide +kernel) (Nat.le_of_ble_eq_true rfl) (fun X F hn => ?_)
  refine j_aload_n F.1 dX0_told_0 rfl ?_
  refine j_getr F (k := 0) inX0 rfl (by decide) fl_X0_12 (sh_cell hk hi) rfl dX0_told_1 ?_
  refine j_geti F (k := 0) inX1 rfl (by decide) fl_X0_45 (sh_def hk hi) rfl dX0_told_4 ?_
  refine j_iconst F.1 (-1) dX0_told_7 (by decide) ?_
  refine j_icmp_ne F.1 21 dX0_told_8 (by decide) (fun h8 => ?_) (fun h8 => ?_)
  · refine j_aload_n F.1 dX0_told_21 rfl ?_
    refine j_geti F (k := 3) inX0 rfl (by decide) fl_X0_33 (sh_cell hk hi) rfl dX0_told_22 ?_
    exact j_iret F dX0_told_25 ((rIe (by unfold C_told; first | rw [if_pos h8] | rw [if_neg h8]) rfl))
  · refine j_aload_n F.1 dX0_told_11 rfl ?_
    refine j_getr F (k := 0) inX0 rfl (by decide) fl_X0_12 (sh_cell hk hi) rfl dX0_told_12 ?_
    refine j_geti F (k := 1) inX1 rfl (by decide) fl_X0_48 (sh_def hk hi) rfl dX0_told_15 ?_
    refine j_goto F.1 25 dX0_told_18 (by decide) ?_
    exact j_iret F dX0_told_25 ((rIe (by unfold C_told; first | rw [if_pos h8] | rw [if_neg h8]) rfl))
