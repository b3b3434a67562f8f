/-! The class: what acts. -/
theorem H_le {n : Nat} {f p : Nat → Int32} (h : n ≤ 4) : (H_act n f p).2 ≤ 4 := by
  unfold H_act
  split
  · exact Nat.le_refl 4
  · show n + 1 ≤ 4; omega
def S_define (f p : Nat → Int32) (n : Nat) (c x : Int32) : rcS := if (0 ≤ c ∧ c ≤ 9) ∧ (-99999 ≤ x ∧ x ≤ 99999) then S_act (A_def f (cN c) 0 x 0 0 0 0) f (A_def f (cN c) 0 x 0 0 0) p n else S_no (-2000000001) f p n
def S_formula (f p : Nat → Int32) (n : Nat) (c k x y z : Int32) : rcS := if (0 ≤ c ∧ c ≤ 9) ∧ (0 ≤ k ∧ k ≤ 4) ∧ (0 ≤ x ∧ x ≤ 9) ∧ (0 ≤ y ∧ y ≤ 9) ∧ (0 ≤ z ∧ z ≤ (if k = 4 then (9 : Int32) else 0)) then S_act (A_def f (cN c) (k + 1) 0 x y z 0) f (A_def f (cN c) (k + 1) 0 x y z) p n else S_no (-2000000001) f p n
set_option maxHeartbeats 4000000 in
set_option maxRecDepth 100000 in
theorem c_define {Y : rcY} {la : Launch} {v : rcM} {f p tx : Nat → Int32} {n ln : Nat} (hn4 : n ≤ 4) (hC : CR v f p n tx ln) {c x : Int32} : rcT shC 139 Y la 4 (yX5_define, cX5_define, 3, (some .int)) [.ref (Y.2.1 0), .int c, .int x] (v) (KXq (S_define f p n c x) tx ln) := by
  refine rcT.of (by decide +kernel) (Nat.le_of_ble_eq_true rfl) (fun X F hn => ?_)
  refine j_iload_n F.1 dX5_define_0 rfl ?_
  refine j_callSi F (c_isCell) co_X5_isCell ml_X5_40 st_X5_isCell in_X5 rc_X5_isCell rfl (by decide) (by decide) rfl (Nat.le_of_ble_eq_true rfl) dX5_define_1 ?_
  refine j_if_eq F.1 14 dX5_define_4 (by decide) (fun h4 => ?_) (fun h4 => ?_)
  · rw [b2_0] at h4
    refine j_ldc F cn_X5_47 dX5_define_14 ?_
    exact j_iret F dX5_define_16 ((by unfold S_define; rw [if_neg (fun z => by first | exact h4 z.1 | exact h11 z.2)]; exact ⟨rfl, hC⟩))
  · rw [b2_0, Classical.not_not] at h4
    obtain ⟨i, hi, rfl⟩ := cell_of h4
    refine j_iload_n F.1 dX5_define_7 rfl ?_
    refine j_callSi F (c_isValue) co_X5_isValue ml_X5_44 st_X5_isValue in_X5 rc_X5_isValue rfl (by decide) (by decide) rfl (Nat.le_of_ble_eq_true rfl) dX5_define_8 ?_
    refine j_if_ne F.1 17 dX5_define_11 (by decide) (fun h11 => ?_) (fun h11 => ?_)
    · rw [b2_0, Classical.not_not] at h11
      refine j_aload_n F.1 dX5_define_17 rfl ?_
      refine j_getr F (k := 2) inX5 rfl (by decide) fl_X5_22 ⟨by decide, rfl⟩ rfl dX5_define_18 ?_
      refine j_aload_n F.1 dX5_define_21 rfl ?_
      refine j_getr F (k := 0) inX5 rfl (by decide) fl_X5_10 ⟨by decide, rfl⟩ rfl dX5_define_22 ?_
      refine j_callV F (c_record hn4 hC) co_X2_record ml_X5_48 im_X2_record se_X2_record in_X2 rc_X2_record rfl (by decide) (by decide) ⟨by decide, rfl⟩ rfl rfl (Nat.le_of_ble_eq_true rfl) dX5_define_25 (fun r u hr => ?_)
      obtain ⟨rfl, hC1, fr1⟩ := hr
      refine j_aload_n F.1 dX5_define_28 rfl ?_
      refine j_getr F (k := 4) inX5 rfl (by decide) fl_X5_36 ⟨by decide, rfl⟩ rfl dX5_define_29 ?_
      refine j_iload_n F.1 dX5_define_32 rfl ?_
      refine j_callVv F (c_setValue (p := 6) ⟨by decide, rfl⟩) co_X1_setValue ml_X5_52 im_X1_setValue se_X1_setValue in_X1 rc_X1_setValue rfl (by decide) (by decide) ⟨by decide, rfl⟩ rfl rfl (Nat.le_of_ble_eq_true rfl) dX5_define_33 ?_
      have hC2 := hC1.set6 (a := -1) (b := x) (c := 0) (d := 0) (e := 0) (H_le hn4)
      refine j_aload_n F.1 dX5_define_36 rfl ?_
      refine j_getr F (k := 0) inX5 rfl (by decide) fl_X5_10 ⟨by decide, rfl⟩ rfl dX5_define_37 ?_
      refine j_iload_n F.1 dX5_define_40 rfl ?_
      refine j_aload_n F.1 dX5_define_41 rfl ?_
      refine j_getr F (k := 4) inX5 rfl (by decide) fl_X5_36 ⟨by decide, rfl⟩ rfl dX5_define_42 ?_
      refine j_callV F (c_redefine (k := 0) (q := 6) (by decide) hi ⟨by decide, rfl⟩ (by decide) hC2.1) co_X3_redefine ml_X5_56 im_X3_redefine se_X3_redefine in_X3 rc_X3_redefine rfl (by decide) (by decide) (sh_st (k := 0) (by decide)) rfl rfl (Nat.le_of_ble_eq_true rfl) dX5_define_45 (fun r u hr => ?_)
      obtain ⟨rfl, R7, kp7⟩ := hr
      rw [setD_0, setD_1, setD_2, setD_3, setD_4] at R7
      refine j_aload_n F.1 dX5_define_48 rfl ?_
      refine j_getr F (k := 0) inX5 rfl (by decide) fl_X5_10 ⟨by decide, rfl⟩ rfl dX5_define_49 ?_
      refine j_geti F (k := 1) inX3 rfl (by decide) fl_X5_60 (sh_st (k := 0) (by decide)) rfl dX5_define_52 ?_
      refine j_top R7.2.1 ?_
      exact j_iret F dX5_define_55 ((by unfold S_define; rw [if_pos ⟨nI_in9 hi, h11⟩, cN_nI hi]; exact ⟨rfl, hC2.out0 (H_le hn4) kp7.1 R7⟩))
    · rw [b2_0] at h11
      refine j_ldc F cn_X5_47 dX5_define_14 ?_
      exact j_iret F dX5_define_16 ((by unfold S_define; rw [if_neg (fun z => by first | exact h4 z.1 | exact h11 z.2)]; exact ⟨rfl, hC⟩))
set_option maxHeartbeats 4000000 in
set_option maxRecDepth 100000 in
theorem c_formula {Y : rcY} {la : Launch} {v : rcM} {f p tx : Nat → Int32} {n ln : Nat} (hn4 : n ≤ 4) (hC : CR v f p n tx ln) {c k x y z : Int32} : rcT shC 139 Y la 4 (yX5_formula, cX5_formula, 6, (some .int)) [.ref (Y.2.1 0), .int c, .int k, .int x, .int y, .int z] (v) (KXq (S_formula f p n c k x y z) tx ln) := by
  refine rcT.of (by decide +kernel) (Nat.le_of_ble_eq_true rfl) (fun X F hn => ?_)
  refine j_iload_n F.1 dX5_formula_0 rfl ?_
  refine j_callSi F (c_isCell) co_X5_isCell ml_X5_40 st_X5_isCell in_X5 rc_X5_isCell rfl (by decide) (by decide) rfl (Nat.le_of_ble_eq_true rfl) dX5_formula_1 ?_
  refine j_if_eq F.1 38 dX5_formula_4 (by decide) (fun h4 => ?_) (fun h4 => ?_)
  · rw [b2_0] at h4
    refine j_ldc F cn_X5_47 dX5_formula_38 ?_
    exact j_iret F dX5_formula_40 ((by unfold S_formula; rw [if_neg (fun q => by first | exact h4 q.1 | exact h11 q.2.1 | exact h18 q.2.2.1 | exact h26 q.2.2.2.1 | exact h35 q.2.2.2.2)]; exact ⟨rfl, hC⟩))
  · rw [b2_0, Classical.not_not] at h4
    obtain ⟨i, hi, rfl⟩ := cell_of h4
    refine j_iload_n F.1 dX5_formula_7 rfl ?_
    refine j_callSi F (c_isKind) co_X5_isKind ml_X5_64 st_X5_isKind in_X5 rc_X5_isKind rfl (by decide) (by decide) rfl (Nat.le_of_ble_eq_true rfl) dX5_formula_8 ?_
    refine j_if_eq F.1 38 dX5_formula_11 (by decide) (fun h11 => ?_) (fun h11 => ?_)
    · rw [b2_0] at h11
      refine j_ldc F cn_X5_47 dX5_formula_38 ?_
      exact j_iret F dX5_formula_40 ((by unfold S_formula; rw [if_neg (fun q => by first | exact h4 q.1 | exact h11 q.2.1 | exact h18 q.2.2.1 | exact h26 q.2.2.2.1 | exact h35 q.2.2.2.2)]; exact ⟨rfl, hC⟩))
    · rw [b2_0, Classical.not_not] at h11
      refine j_iload_n F.1 dX5_formula_14 rfl ?_
      refine j_callSi F (c_isCell) co_X5_isCell ml_X5_40 st_X5_isCell in_X5 rc_X5_isCell rfl (by decide) (by decide) rfl (Nat.le_of_ble_eq_true rfl) dX5_formula_15 ?_
      refine j_if_eq F.1 38 dX5_formula_18 (by decide) (fun h18 => ?_) (fun h18 => ?_)
      · rw [b2_0] at h18
        refine j_ldc F cn_X5_47 dX5_formula_38 ?_
        exact j_iret F dX5_formula_40 ((by unfold S_formula; rw [if_neg (fun q => by first | exact h4 q.1 | exact h11 q.2.1 | exact h18 q.2.2.1 | exact h26 q.2.2.2.1 | exact h35 q.2.2.2.2)]; exact ⟨rfl, hC⟩))
      · rw [b2_0, Classical.not_not] at h18
        refine j_iload F.1 dX5_formula_21 rfl ?_
        refine j_callSi F (c_isCell) co_X5_isCell ml_X5_40 st_X5_isCell in_X5 rc_X5_isCell rfl (by decide) (by decide) rfl (Nat.le_of_ble_eq_true rfl) dX5_formula_23 ?_
        refine j_if_eq F.1 38 dX5_formula_26 (by decide) (fun h26 => ?_) (fun h26 => ?_)
        · rw [b2_0] at h26
          refine j_ldc F cn_X5_47 dX5_formula_38 ?_
          exact j_iret F dX5_formula_40 ((by unfold S_formula; rw [if_neg (fun q => by first | exact h4 q.1 | exact h11 q.2.1 | exact h18 q.2.2.1 | exact h26 q.2.2.2.1 | exact h35 q.2.2.2.2)]; exact ⟨rfl, hC⟩))
        · rw [b2_0, Classical.not_not] at h26
          refine j_iload_n F.1 dX5_formula_29 rfl ?_
          refine j_iload F.1 dX5_formula_30 rfl ?_
          refine j_callSi F (c_isThird) co_X5_isThird ml_X5_67 st_X5_isThird in_X5 rc_X5_isThird rfl (by decide) (by decide) rfl (Nat.le_of_ble_eq_true rfl) dX5_formula_32 ?_
          refine j_if_ne F.1 41 dX5_formula_35 (by decide) (fun h35 => ?_) (fun h35 => ?_)
          · rw [b2_0, Classical.not_not] at h35
            refine j_aload_n F.1 dX5_formula_41 rfl ?_
            refine j_getr F (k := 2) inX5 rfl (by decide) fl_X5_22 ⟨by decide, rfl⟩ rfl dX5_formula_42 ?_
            refine j_aload_n F.1 dX5_formula_45 rfl ?_
            refine j_getr F (k := 0) inX5 rfl (by decide) fl_X5_10 ⟨by decide, rfl⟩ rfl dX5_formula_46 ?_
            refine j_callV F (c_record hn4 hC) co_X2_record ml_X5_48 im_X2_record se_X2_record in_X2 rc_X2_record rfl (by decide) (by decide) ⟨by decide, rfl⟩ rfl rfl (Nat.le_of_ble_eq_true rfl) dX5_formula_49 (fun r u hr => ?_)
            obtain ⟨rfl, hC1, fr1⟩ := hr
            refine j_aload_n F.1 dX5_formula_52 rfl ?_
            refine j_getr F (k := 4) inX5 rfl (by decide) fl_X5_36 ⟨by decide, rfl⟩ rfl dX5_formula_53 ?_
            refine j_iload_n F.1 dX5_formula_56 rfl ?_
            refine j_iload_n F.1 dX5_formula_57 rfl ?_
            refine j_iload F.1 dX5_formula_58 rfl ?_
            refine j_iload F.1 dX5_formula_60 rfl ?_
            refine j_callVv F (c_setFormula (p := 6) ⟨by decide, rfl⟩) co_X1_setFormula ml_X5_71 im_X1_setFormula se_X1_setFormula in_X1 rc_X1_setFormula rfl (by decide) (by decide) ⟨by decide, rfl⟩ rfl rfl (Nat.le_of_ble_eq_true rfl) dX5_formula_62 ?_
            have hC2 := hC1.set6 (a := k) (b := 0) (c := x) (d := y) (e := z) (H_le hn4)
            refine j_aload_n F.1 dX5_formula_65 rfl ?_
            refine j_getr F (k := 0) inX5 rfl (by decide) fl_X5_10 ⟨by decide, rfl⟩ rfl dX5_formula_66 ?_
            refine j_iload_n F.1 dX5_formula_69 rfl ?_
            refine j_aload_n F.1 dX5_formula_70 rfl ?_
            refine j_getr F (k := 4) inX5 rfl (by decide) fl_X5_36 ⟨by decide, rfl⟩ rfl dX5_formula_71 ?_
            refine j_callV F (c_redefine (k := 0) (q := 6) (by decide) hi ⟨by decide, rfl⟩ (by decide) hC2.1) co_X3_redefine ml_X5_56 im_X3_redefine se_X3_redefine in_X3 rc_X3_redefine rfl (by decide) (by decide) (sh_st (k := 0) (by decide)) rfl rfl (Nat.le_of_ble_eq_true rfl) dX5_formula_74 (fun r u hr => ?_)
            obtain ⟨rfl, R7, kp7⟩ := hr
            rw [setD_0, setD_1, setD_2, setD_3, setD_4] at R7
            refine j_aload_n F.1 dX5_formula_77 rfl ?_
            refine j_getr F (k := 0) inX5 rfl (by decide) fl_X5_10 ⟨by decide, rfl⟩ rfl dX5_formula_78 ?_
            refine j_geti F (k := 1) inX3 rfl (by decide) fl_X5_60 (sh_st (k := 0) (by decide)) rfl dX5_formula_81 ?_
            refine j_top R7.2.1 ?_
            exact j_iret F dX5_formula_84 ((by unfold S_formula; rw [if_pos ⟨nI_in9 hi, h11, h18, h26, h35⟩, cN_nI hi]; exact ⟨rfl, hC2.out0 (H_le hn4) kp7.1 R7⟩))
          · rw [b2_0] at h35
            refine j_ldc F cn_X5_47 dX5_formula_38 ?_
            exact j_iret F dX5_formula_40 ((by unfold S_formula; rw [if_neg (fun q => by first | exact h4 q.1 | exact h11 q.2.1 | exact h18 q.2.2.1 | exact h26 q.2.2.2.1 | exact h35 q.2.2.2.2)]; exact ⟨rfl, hC⟩))
set_option maxHeartbeats 4000000 in
set_option maxRecDepth 100000 in
theorem c_ask {Y : rcY} {la : Launch} {v : rcM} {f p tx : Nat → Int32} {n ln : Nat} (hn4 : n ≤ 4) (hC : CR v f p n tx ln) (hw : WF f) {c : Int32} : rcT shC 139 Y la 47 (yX5_ask, cX5_ask, 3, (some .int)) [.ref (Y.2.1 0), .int c] (v) (KXq (S_ask f p n c) tx ln) := by
  refine rcT.of (by decide +kernel) (Nat.le_of_ble_eq_true rfl) (fun X F hn => ?_)
  refine j_iload_n F.1 dX5_ask_0 rfl ?_
  refine j_callSi F (c_isCell) co_X5_isCell ml_X5_40 st_X5_isCell in_X5 rc_X5_isCell rfl (by decide) (by decide) rfl (Nat.le_of_ble_eq_true rfl) dX5_ask_1 ?_
  refine j_if_ne F.1 10 dX5_ask_4 (by decide) (fun h4 => ?_) (fun h4 => ?_)
  · rw [b2_0, Classical.not_not] at h4
    obtain ⟨i, hi, rfl⟩ := cell_of h4
    refine j_aload_n F.1 dX5_ask_10 rfl ?_
    refine j_getr F (k := 1) inX5 rfl (by decide) fl_X5_16 ⟨by decide, rfl⟩ rfl dX5_ask_11 ?_
    refine j_aload_n F.1 dX5_ask_14 rfl ?_
    refine j_getr F (k := 0) inX5 rfl (by decide) fl_X5_10 ⟨by decide, rfl⟩ rfl dX5_ask_15 ?_
    refine j_callV F (c_copy (k := 1) (k2 := 0) (by decide) (by decide) (by decide)) co_X3_copy ml_X5_104 im_X3_copy se_X3_copy in_X3 rc_X3_copy rfl (by decide) (by decide) (sh_st (k := 1) (by decide)) rfl rfl (Nat.le_of_ble_eq_true rfl) dX5_ask_18 (fun r u hr => ?_)
    obtain ⟨rfl, cp⟩ := hr
    refine j_aload_n F.1 dX5_ask_21 rfl ?_
    refine j_getr F (k := 1) inX5 rfl (by decide) fl_X5_16 ⟨by decide, rfl⟩ rfl dX5_ask_22 ?_
    refine j_iload_n F.1 dX5_ask_25 rfl ?_
    refine j_callV F (c_lookAt (k := 1) (by decide) hi (cp.rep hC.1) cp.zr hw) co_X3_lookAt ml_X5_107 im_X3_lookAt se_X3_lookAt in_X3 rc_X3_lookAt rfl (by decide) (by decide) (sh_st (k := 1) (by decide)) rfl rfl (Nat.le_of_ble_eq_true rfl) dX5_ask_26 (fun r u hr => ?_)
    unfold KLA at hr
    cases e : A_look 11 [] f i with
    | none =>
      rw [e] at hr
      obtain ⟨rfl, ho⟩ := hr
      refine j_tl ?_
      refine j_if_ne F.1 35 dX5_ask_29 (by decide) (fun h29 => False.elim (by revert h29; decide)) (fun _ => ?_)
      refine j_ldc F cn_X5_110 dX5_ask_32 ?_
      exact j_iret F dX5_ask_34 ((by unfold S_ask; rw [if_pos (nI_in9 hi), cN_nI hi, e]; exact ⟨rfl, hC.out1 hn4 (cp.2.2.tr ho)⟩))
    | some g =>
      rw [e] at hr
      obtain ⟨rfl, R3, O3, S3⟩ := hr
      have hgd := A_look_good 11 _ _ _ _ hi (pre_0 hw) e
      have hC3 := hC.out1 hn4 (cp.2.2.tr O3)
      refine j_tl ?_
      refine j_if_ne F.1 35 dX5_ask_29 (by decide) (fun _ => ?_) (fun h29 => False.elim (by revert h29; decide))
      refine j_aload_n F.1 dX5_ask_35 rfl ?_
      refine j_getr F (k := 1) inX5 rfl (by decide) fl_X5_16 ⟨by decide, rfl⟩ rfl dX5_ask_36 ?_
      refine j_getr F (k := 0) inX3 rfl (by decide) fl_X5_79 (sh_st (k := 1) (by decide)) rfl dX5_ask_39 ?_
      refine j_iload_n F.1 dX5_ask_42 rfl ?_
      refine j_aald3 F (sh_arr (k := 1) (by decide)) rfl hi (by decide) dX5_ask_43 ?_
      refine j_callVi F (c_told (k := 1) (by decide) hi) co_X0_told ml_X5_111 im_X0_told se_X0_told in_X0 rc_X0_told rfl (by decide) (by decide) (sh_cell (k := 1) (by decide) hi) rfl rfl (Nat.le_of_ble_eq_true rfl) dX5_ask_44 ?_
      refine j_top (R3.told hi hgd.2) ?_
      refine j_istore_n F.1 dX5_ask_47 (by rw [hn]; decide) ?_
      refine j_aload_n F.1 dX5_ask_48 rfl ?_
      refine j_getr F (k := 1) inX5 rfl (by decide) fl_X5_16 ⟨by decide, rfl⟩ rfl dX5_ask_49 ?_
      refine j_callV F (c_forgetBeyond (k := 1) (by decide) R3 (hgd.1.2.2.2.2.2.2 hw)) co_X3_forgetBeyondBound ml_X5_115 im_X3_forgetBeyondBound se_X3_forgetBeyondBound in_X3 rc_X3_forgetBeyondBound rfl (by decide) (by decide) (sh_st (k := 1) (by decide)) rfl rfl (Nat.le_of_ble_eq_true rfl) dX5_ask_52 (fun r u hr => ?_)
      obtain ⟨rfl, R4, kp4⟩ := hr
      refine j_aload_n F.1 dX5_ask_55 rfl ?_
      refine j_getr F (k := 2) inX5 rfl (by decide) fl_X5_22 ⟨by decide, rfl⟩ rfl dX5_ask_56 ?_
      refine j_aload_n F.1 dX5_ask_59 rfl ?_
      refine j_getr F (k := 0) inX5 rfl (by decide) fl_X5_10 ⟨by decide, rfl⟩ rfl dX5_ask_60 ?_
      refine j_callV F (c_record hn4 (hC3.out1 hn4 kp4.1)) co_X2_record ml_X5_48 im_X2_record se_X2_record in_X2 rc_X2_record rfl (by decide) (by decide) ⟨by decide, rfl⟩ rfl rfl (Nat.le_of_ble_eq_true rfl) dX5_ask_63 (fun r u hr => ?_)
      obtain ⟨rfl, hC5, fr5⟩ := hr
      have R5 := R4.blk (fun id hid => fr5 id (by unfold Blk at hid; omega) (by unfold Blk at hid; omega) (by unfold Blk at hid; omega))
      refine j_aload_n F.1 dX5_ask_66 rfl ?_
      refine j_getr F (k := 0) inX5 rfl (by decide) fl_X5_10 ⟨by decide, rfl⟩ rfl dX5_ask_67 ?_
      refine j_aload_n F.1 dX5_ask_70 rfl ?_
      refine j_getr F (k := 1) inX5 rfl (by decide) fl_X5_16 ⟨by decide, rfl⟩ rfl dX5_ask_71 ?_
      refine j_callV F (c_copy (k := 0) (k2 := 1) (by decide) (by decide) (by decide)) co_X3_copy ml_X5_104 im_X3_copy se_X3_copy in_X3 rc_X3_copy rfl (by decide) (by decide) (sh_st (k := 0) (by decide)) rfl rfl (Nat.le_of_ble_eq_true rfl) dX5_ask_74 (fun r u hr => ?_)
      obtain ⟨rfl, cp6⟩ := hr
      refine j_iload_n F.1 dX5_ask_77 rfl ?_
      exact j_iret F dX5_ask_78 ((by unfold S_ask; rw [if_pos (nI_in9 hi), cN_nI hi, e]; exact ⟨rfl, hC5.out0 (H_le hn4) cp6.2.2 (cp6.rep R5)⟩))
  · rw [b2_0] at h4
    refine j_ldc F cn_X5_47 dX5_ask_7 ?_
    exact j_iret F dX5_ask_9 ((by unfold S_ask; rw [if_neg h4]; exact ⟨rfl, hC⟩))
set_option maxHeartbeats 4000000 in
set_option maxRecDepth 100000 in
theorem c_forget {Y : rcY} {la : Launch} {v : rcM} {f p tx : Nat → Int32} {n ln : Nat} (hn4 : n ≤ 4) (hC : CR v f p n tx ln) {c : Int32} : rcT shC 139 Y la 4 (yX5_forget, cX5_forget, 2, (some .int)) [.ref (Y.2.1 0), .int c] (v) (KXq (S_forget f p n c) tx ln) := by
  refine rcT.of (by decide +kernel) (Nat.le_of_ble_eq_true rfl) (fun X F hn => ?_)
  refine j_iload_n F.1 dX5_forget_0 rfl ?_
  refine j_callSi F (c_isCell) co_X5_isCell ml_X5_40 st_X5_isCell in_X5 rc_X5_isCell rfl (by decide) (by decide) rfl (Nat.le_of_ble_eq_true rfl) dX5_forget_1 ?_
  refine j_if_ne F.1 10 dX5_forget_4 (by decide) (fun h4 => ?_) (fun h4 => ?_)
  · rw [b2_0, Classical.not_not] at h4
    obtain ⟨i, hi, rfl⟩ := cell_of h4
    refine j_aload_n F.1 dX5_forget_10 rfl ?_
    refine j_getr F (k := 0) inX5 rfl (by decide) fl_X5_10 ⟨by decide, rfl⟩ rfl dX5_forget_11 ?_
    refine j_getr F (k := 0) inX3 rfl (by decide) fl_X5_79 (sh_st (k := 0) (by decide)) rfl dX5_forget_14 ?_
    refine j_iload_n F.1 dX5_forget_17 rfl ?_
    refine j_aald3 F (sh_arr (k := 0) (by decide)) rfl hi (by decide) dX5_forget_18 ?_
    refine j_getz F (k := 2) inX0 rfl (by decide) fl_X5_131 (sh_cell (k := 0) (by decide) hi) rfl dX5_forget_19 ?_
    refine j_if_ne F.1 28 dX5_forget_22 (by decide) (fun h22 => ?_) (fun h22 => ?_)
    · have h6 : f (ix i 6) = 1 := hC.1.has1 hi h22
      refine j_aload_n F.1 dX5_forget_28 rfl ?_
      refine j_getr F (k := 2) inX5 rfl (by decide) fl_X5_22 ⟨by decide, rfl⟩ rfl dX5_forget_29 ?_
      refine j_aload_n F.1 dX5_forget_32 rfl ?_
      refine j_getr F (k := 0) inX5 rfl (by decide) fl_X5_10 ⟨by decide, rfl⟩ rfl dX5_forget_33 ?_
      refine j_callV F (c_record hn4 hC) co_X2_record ml_X5_48 im_X2_record se_X2_record in_X2 rc_X2_record rfl (by decide) (by decide) ⟨by decide, rfl⟩ rfl rfl (Nat.le_of_ble_eq_true rfl) dX5_forget_36 (fun r u hr => ?_)
      obtain ⟨rfl, hC1, fr1⟩ := hr
      refine j_aload_n F.1 dX5_forget_39 rfl ?_
      refine j_getr F (k := 0) inX5 rfl (by decide) fl_X5_10 ⟨by decide, rfl⟩ rfl dX5_forget_40 ?_
      refine j_iload_n F.1 dX5_forget_43 rfl ?_
      refine j_callV F (c_forgetAnswer (k := 0) (by decide) hC1.1 hi) co_X3_forgetAnswer ml_X5_135 im_X3_forgetAnswer se_X3_forgetAnswer in_X3 rc_X3_forgetAnswer rfl (by decide) (by decide) (sh_st (k := 0) (by decide)) rfl rfl (Nat.le_of_ble_eq_true rfl) dX5_forget_44 (fun r u hr => ?_)
      obtain ⟨rfl, R7, kp7⟩ := hr
      refine j_aload_n F.1 dX5_forget_47 rfl ?_
      refine j_getr F (k := 0) inX5 rfl (by decide) fl_X5_10 ⟨by decide, rfl⟩ rfl dX5_forget_48 ?_
      refine j_callVi F (c_remembered (k := 0) (by decide) R7) co_X3_rememberedAnswers ml_X5_138 im_X3_rememberedAnswers se_X3_rememberedAnswers in_X3 rc_X3_rememberedAnswers rfl (by decide) (by decide) (sh_st (k := 0) (by decide)) rfl rfl (Nat.le_of_ble_eq_true rfl) dX5_forget_51 ?_
      exact j_iret F dX5_forget_54 ((by unfold S_forget; rw [if_pos (nI_in9 hi), cN_nI hi, if_neg (by rw [h6]; decide)]; exact ⟨rfl, hC1.out0 (H_le hn4) kp7.1 R7⟩))
    · have h6 : f (ix i 6) = 0 := hC.1.has0 hi (by first | exact h22 | exact Classical.not_not.mp h22)
      refine j_ldc F cn_X5_110 dX5_forget_25 ?_
      exact j_iret F dX5_forget_27 ((by unfold S_forget; rw [if_pos (nI_in9 hi), cN_nI hi, if_pos h6]; exact ⟨rfl, hC⟩))
  · rw [b2_0] at h4
    refine j_ldc F cn_X5_47 dX5_forget_7 ?_
    exact j_iret F dX5_forget_9 ((by unfold S_forget; rw [if_neg h4]; exact ⟨rfl, hC⟩))
theorem bound_rep {v : rcM} {f : Nat → Int32} {x : Int32} (h : Rep v 0 f) : Rep (rcu v (sid 0) 2 x) 0 (upd f 5 x) := by
  refine ⟨fun i hi => (h.1 i hi).congr (rcu_ne ne_sc.symm) (rcu_ne ne_sd.symm) (fun j _ => by rw [pk_un (ix_g (by decide))]), ?_⟩
  obtain ⟨s1, s2, s3, s4, s5, s6, s7, s8⟩ := h.2
  unfold RpS
  rw [rcu_k (by decide), rcu_self, rcu_k (by decide), rcu_k (by decide), rcu_k (by decide), rcu_k (by decide), rcu_k (by decide), rcu_k (by decide), pk_un (by decide), pk_us, pk_un (by decide), pk_un (by decide), pk_un (by decide), pk_un (by decide), pk_un (by decide), pk_un (by decide)]
  exact ⟨s1, rfl, s3, s4, s5, s6, s7, s8⟩
set_option maxHeartbeats 4000000 in
set_option maxRecDepth 100000 in
theorem c_bound {Y : rcY} {la : Launch} {v : rcM} {f p tx : Nat → Int32} {n ln : Nat} (hn4 : n ≤ 4) (hC : CR v f p n tx ln) {x : Int32} : rcT shC 139 Y la 4 (yX5_bound, cX5_bound, 3, (some .int)) [.ref (Y.2.1 0), .int x] (v) (KXq (S_bound f p n x) tx ln) := by
  refine rcT.of (by decide +kernel) (Nat.le_of_ble_eq_true rfl) (fun X F hn => ?_)
  refine j_iload_n F.1 dX5_bound_0 rfl ?_
  refine j_iconst F.1 (0) dX5_bound_1 (by decide) ?_
  refine j_bipush F.1 (10) dX5_bound_2 (by decide) ?_
  refine j_callSi F (c_isWithin) co_X5_isWithin ml_X5_75 st_X5_isWithin in_X5 rc_X5_isWithin rfl (by decide) (by decide) rfl (Nat.le_of_ble_eq_true rfl) dX5_bound_4 ?_
  refine j_if_ne F.1 13 dX5_bound_7 (by decide) (fun h7 => ?_) (fun h7 => ?_)
  · rw [b2_0, Classical.not_not] at h7
    refine j_aload_n F.1 dX5_bound_13 rfl ?_
    refine j_getr F (k := 2) inX5 rfl (by decide) fl_X5_22 ⟨by decide, rfl⟩ rfl dX5_bound_14 ?_
    refine j_aload_n F.1 dX5_bound_17 rfl ?_
    refine j_getr F (k := 0) inX5 rfl (by decide) fl_X5_10 ⟨by decide, rfl⟩ rfl dX5_bound_18 ?_
    refine j_callV F (c_record hn4 hC) co_X2_record ml_X5_48 im_X2_record se_X2_record in_X2 rc_X2_record rfl (by decide) (by decide) ⟨by decide, rfl⟩ rfl rfl (Nat.le_of_ble_eq_true rfl) dX5_bound_21 (fun r u hr => ?_)
    obtain ⟨rfl, hC1, fr1⟩ := hr
    refine j_aload_n F.1 dX5_bound_24 rfl ?_
    refine j_getr F (k := 0) inX5 rfl (by decide) fl_X5_10 ⟨by decide, rfl⟩ rfl dX5_bound_25 ?_
    refine j_geti F (k := 2) inX3 rfl (by decide) fl_X5_141 (sh_st (k := 0) (by decide)) rfl dX5_bound_28 ?_
    refine j_top hC1.1.2.2.1 ?_
    refine j_istore_n F.1 dX5_bound_31 (by rw [hn]; decide) ?_
    refine j_aload_n F.1 dX5_bound_32 rfl ?_
    refine j_getr F (k := 0) inX5 rfl (by decide) fl_X5_10 ⟨by decide, rfl⟩ rfl dX5_bound_33 ?_
    refine j_iload_n F.1 dX5_bound_36 rfl ?_
    refine j_puti F (k := 2) inX3 tyX3_ok nmX3 rfl (by decide) fl_X5_141 rfl rfl (sh_st (k := 0) (by decide)) rfl dX5_bound_37 ?_
    refine j_iload_n F.1 dX5_bound_40 rfl ?_
    exact j_iret F dX5_bound_41 ((by unfold S_bound; rw [if_pos h7]; exact ⟨rfl, hC1.out0 (H_le hn4) (Out.rf.u blk_s) (bound_rep hC1.1)⟩))
  · rw [b2_0] at h7
    refine j_ldc F cn_X5_47 dX5_bound_10 ?_
    exact j_iret F dX5_bound_12 ((by unfold S_bound; rw [if_neg h7]; exact ⟨rfl, hC⟩))
set_option maxHeartbeats 4000000 in
set_option maxRecDepth 100000 in
theorem c_undo {Y : rcY} {la : Launch} {v : rcM} {f p tx : Nat → Int32} {n ln : Nat} (hn4 : n ≤ 4) (hC : CR v f p n tx ln) : rcT shC 139 Y la 4 (yX5_undo, cX5_undo, 1, (some .int)) [.ref (Y.2.1 0)] (v) (KXq (S_undo f p n) tx ln) := by
  refine rcT.of (by decide +kernel) (Nat.le_of_ble_eq_true rfl) (fun X F hn => ?_)
  cases n with
  | zero =>
    refine j_aload_n F.1 dX5_undo_0 rfl ?_
    refine j_getr F (k := 2) inX5 rfl (by decide) fl_X5_22 ⟨by decide, rfl⟩ rfl dX5_undo_1 ?_
    refine j_geti F (k := 1) inX2 rfl (by decide) fl_X5_171 ⟨by decide, rfl⟩ rfl dX5_undo_4 ?_
    refine j_top (y := 0) hC.2.1 ?_
    refine j_if_ne F.1 13 dX5_undo_7 (by decide) (fun h7 => False.elim (by revert h7; decide)) (fun _ => ?_)
    refine j_ldc F cn_X5_110 dX5_undo_10 ?_
    exact j_iret F dX5_undo_12 ((by unfold S_undo; rw [if_pos rfl]; exact ⟨rfl, hC⟩))
  | succ m =>
    refine j_aload_n F.1 dX5_undo_0 rfl ?_
    refine j_getr F (k := 2) inX5 rfl (by decide) fl_X5_22 ⟨by decide, rfl⟩ rfl dX5_undo_1 ?_
    refine j_geti F (k := 1) inX2 rfl (by decide) fl_X5_171 ⟨by decide, rfl⟩ rfl dX5_undo_4 ?_
    refine j_top hC.2.1 ?_
    refine j_if_ne F.1 13 dX5_undo_7 (by decide) (fun h7 => ?_) (fun h7 => ?_)
    · refine j_aload_n F.1 dX5_undo_13 rfl ?_
      refine j_getr F (k := 2) inX5 rfl (by decide) fl_X5_22 ⟨by decide, rfl⟩ rfl dX5_undo_14 ?_
      refine j_aload_n F.1 dX5_undo_17 rfl ?_
      refine j_getr F (k := 0) inX5 rfl (by decide) fl_X5_10 ⟨by decide, rfl⟩ rfl dX5_undo_18 ?_
      refine j_callV F (c_restore (show m < 4 by omega) hC) co_X2_restoreLatestTo ml_X5_177 im_X2_restoreLatestTo se_X2_restoreLatestTo in_X2 rc_X2_restoreLatestTo rfl (by decide) (by decide) ⟨by decide, rfl⟩ rfl rfl (Nat.le_of_ble_eq_true rfl) dX5_undo_21 (fun r u hr => ?_)
      obtain ⟨rfl, hC2⟩ := hr
      refine j_aload_n F.1 dX5_undo_24 rfl ?_
      refine j_getr F (k := 2) inX5 rfl (by decide) fl_X5_22 ⟨by decide, rfl⟩ rfl dX5_undo_25 ?_
      refine j_geti F (k := 1) inX2 rfl (by decide) fl_X5_171 ⟨by decide, rfl⟩ rfl dX5_undo_28 ?_
      refine j_top hC2.2.1 ?_
      exact j_iret F dX5_undo_31 ((by unfold S_undo; rw [if_neg (Nat.succ_ne_zero m)]; exact ⟨rfl, hC2⟩))
    · exact absurd (by first | exact h7 | exact Classical.not_not.mp h7) (nI_ne0 (n := m + 1) (by omega) (by omega))
set_option maxHeartbeats 4000000 in
set_option maxRecDepth 100000 in
theorem c_count {Y : rcY} {la : Launch} {v : rcM} {f p tx : Nat → Int32} {n ln : Nat} (hn4 : n ≤ 4) (hC : CR v f p n tx ln) {w : Int32} : rcT shC 139 Y la 1 (yX5_count, cX5_count, 2, (some .int)) [.ref (Y.2.1 0), .int w] (v) (KX (S_count f n (nI ln) w) f p n tx ln) := by
  refine rcT.of (by decide +kernel) (Nat.le_of_ble_eq_true rfl) (fun X F hn => ?_)
  refine j_iload_n F.1 dX5_count_0 rfl ?_
  by_cases h1_0 : w = 0
  · refine j_tableIn F.1 56 dX5_count_1 (by rw [h1_0]; decide) (by rw [h1_0]; decide) (by rw [h1_0]; rfl) (by decide) ?_
    refine j_aload_n F.1 dX5_count_56 rfl ?_
    refine j_getr F (k := 0) inX5 rfl (by decide) fl_X5_10 ⟨by decide, rfl⟩ rfl dX5_count_57 ?_
    refine j_geti F (k := 1) inX3 rfl (by decide) fl_X5_60 (sh_st (k := 0) (by decide)) rfl dX5_count_60 ?_
    refine j_top hC.1.2.1 ?_
    exact j_iret F dX5_count_63 ((by unfold S_count; rw [if_pos h1_0]; exact ⟨rfl, hC⟩))
  by_cases h1_1 : w = 1
  · refine j_tableIn F.1 64 dX5_count_1 (by rw [h1_1]; decide) (by rw [h1_1]; decide) (by rw [h1_1]; rfl) (by decide) ?_
    refine j_aload_n F.1 dX5_count_64 rfl ?_
    refine j_getr F (k := 0) inX5 rfl (by decide) fl_X5_10 ⟨by decide, rfl⟩ rfl dX5_count_65 ?_
    refine j_callVi F (c_remembered (k := 0) (by decide) hC.1) co_X3_rememberedAnswers ml_X5_138 im_X3_rememberedAnswers se_X3_rememberedAnswers in_X3 rc_X3_rememberedAnswers rfl (by decide) (by decide) (sh_st (k := 0) (by decide)) rfl rfl (Nat.le_of_ble_eq_true rfl) dX5_count_68 ?_
    exact j_iret F dX5_count_71 ((by unfold S_count; rw [if_neg h1_0, if_pos h1_1]; exact ⟨rfl, hC⟩))
  by_cases h1_2 : w = 2
  · refine j_tableIn F.1 72 dX5_count_1 (by rw [h1_2]; decide) (by rw [h1_2]; decide) (by rw [h1_2]; rfl) (by decide) ?_
    refine j_aload_n F.1 dX5_count_72 rfl ?_
    refine j_getr F (k := 0) inX5 rfl (by decide) fl_X5_10 ⟨by decide, rfl⟩ rfl dX5_count_73 ?_
    refine j_geti F (k := 3) inX3 rfl (by decide) fl_X5_122 (sh_st (k := 0) (by decide)) rfl dX5_count_76 ?_
    refine j_top hC.1.2.2.2.1 ?_
    exact j_iret F dX5_count_79 ((by unfold S_count; rw [if_neg h1_0, if_neg h1_1, if_pos h1_2]; exact ⟨rfl, hC⟩))
  by_cases h1_3 : w = 3
  · refine j_tableIn F.1 80 dX5_count_1 (by rw [h1_3]; decide) (by rw [h1_3]; decide) (by rw [h1_3]; rfl) (by decide) ?_
    refine j_aload_n F.1 dX5_count_80 rfl ?_
    refine j_getr F (k := 0) inX5 rfl (by decide) fl_X5_10 ⟨by decide, rfl⟩ rfl dX5_count_81 ?_
    refine j_geti F (k := 4) inX3 rfl (by decide) fl_X5_125 (sh_st (k := 0) (by decide)) rfl dX5_count_84 ?_
    refine j_top hC.1.2.2.2.2.1 ?_
    exact j_iret F dX5_count_87 ((by unfold S_count; rw [if_neg h1_0, if_neg h1_1, if_neg h1_2, if_pos h1_3]; exact ⟨rfl, hC⟩))
  by_cases h1_4 : w = 4
  · refine j_tableIn F.1 88 dX5_count_1 (by rw [h1_4]; decide) (by rw [h1_4]; decide) (by rw [h1_4]; rfl) (by decide) ?_
    refine j_aload_n F.1 dX5_count_88 rfl ?_
    refine j_getr F (k := 0) inX5 rfl (by decide) fl_X5_10 ⟨by decide, rfl⟩ rfl dX5_count_89 ?_
    refine j_geti F (k := 5) inX3 rfl (by decide) fl_X5_128 (sh_st (k := 0) (by decide)) rfl dX5_count_92 ?_
    refine j_top hC.1.2.2.2.2.2.1 ?_
    exact j_iret F dX5_count_95 ((by unfold S_count; rw [if_neg h1_0, if_neg h1_1, if_neg h1_2, if_neg h1_3, if_pos h1_4]; exact ⟨rfl, hC⟩))
  by_cases h1_5 : w = 5
  · refine j_tableIn F.1 96 dX5_count_1 (by rw [h1_5]; decide) (by rw [h1_5]; decide) (by rw [h1_5]; rfl) (by decide) ?_
    refine j_aload_n F.1 dX5_count_96 rfl ?_
    refine j_getr F (k := 0) inX5 rfl (by decide) fl_X5_10 ⟨by decide, rfl⟩ rfl dX5_count_97 ?_
    refine j_geti F (k := 6) inX3 rfl (by decide) fl_X5_165 (sh_st (k := 0) (by decide)) rfl dX5_count_100 ?_
    refine j_top hC.1.2.2.2.2.2.2.1 ?_
    exact j_iret F dX5_count_103 ((by unfold S_count; rw [if_neg h1_0, if_neg h1_1, if_neg h1_2, if_neg h1_3, if_neg h1_4, if_pos h1_5]; exact ⟨rfl, hC⟩))
  by_cases h1_6 : w = 6
  · refine j_tableIn F.1 104 dX5_count_1 (by rw [h1_6]; decide) (by rw [h1_6]; decide) (by rw [h1_6]; rfl) (by decide) ?_
    refine j_aload_n F.1 dX5_count_104 rfl ?_
    refine j_getr F (k := 0) inX5 rfl (by decide) fl_X5_10 ⟨by decide, rfl⟩ rfl dX5_count_105 ?_
    refine j_geti F (k := 2) inX3 rfl (by decide) fl_X5_141 (sh_st (k := 0) (by decide)) rfl dX5_count_108 ?_
    refine j_top hC.1.2.2.1 ?_
    exact j_iret F dX5_count_111 ((by unfold S_count; rw [if_neg h1_0, if_neg h1_1, if_neg h1_2, if_neg h1_3, if_neg h1_4, if_neg h1_5, if_pos h1_6]; exact ⟨rfl, hC⟩))
  by_cases h1_7 : w = 7
  · refine j_tableIn F.1 112 dX5_count_1 (by rw [h1_7]; decide) (by rw [h1_7]; decide) (by rw [h1_7]; rfl) (by decide) ?_
    refine j_aload_n F.1 dX5_count_112 rfl ?_
    refine j_getr F (k := 0) inX5 rfl (by decide) fl_X5_10 ⟨by decide, rfl⟩ rfl dX5_count_113 ?_
    refine j_geti F (k := 7) inX3 rfl (by decide) fl_X5_168 (sh_st (k := 0) (by decide)) rfl dX5_count_116 ?_
    refine j_top hC.1.2.2.2.2.2.2.2.1 ?_
    exact j_iret F dX5_count_119 ((by unfold S_count; rw [if_neg h1_0, if_neg h1_1, if_neg h1_2, if_neg h1_3, if_neg h1_4, if_neg h1_5, if_neg h1_6, if_pos h1_7]; exact ⟨rfl, hC⟩))
  by_cases h1_8 : w = 8
  · refine j_tableIn F.1 120 dX5_count_1 (by rw [h1_8]; decide) (by rw [h1_8]; decide) (by rw [h1_8]; rfl) (by decide) ?_
    refine j_aload_n F.1 dX5_count_120 rfl ?_
    refine j_getr F (k := 2) inX5 rfl (by decide) fl_X5_22 ⟨by decide, rfl⟩ rfl dX5_count_121 ?_
    refine j_geti F (k := 1) inX2 rfl (by decide) fl_X5_171 ⟨by decide, rfl⟩ rfl dX5_count_124 ?_
    refine j_top hC.2.1 ?_
    exact j_iret F dX5_count_127 ((by unfold S_count; rw [if_neg h1_0, if_neg h1_1, if_neg h1_2, if_neg h1_3, if_neg h1_4, if_neg h1_5, if_neg h1_6, if_neg h1_7, if_pos h1_8]; exact ⟨rfl, hC⟩))
  by_cases h1_9 : w = 9
  · refine j_tableIn F.1 128 dX5_count_1 (by rw [h1_9]; decide) (by rw [h1_9]; decide) (by rw [h1_9]; rfl) (by decide) ?_
    refine j_aload_n F.1 dX5_count_128 rfl ?_
    refine j_getr F (k := 3) inX5 rfl (by decide) fl_X5_29 ⟨by decide, rfl⟩ rfl dX5_count_129 ?_
    refine j_geti F (k := 1) inX4 rfl (by decide) fl_X5_174 ⟨by decide, rfl⟩ rfl dX5_count_132 ?_
    refine j_top hC.2.2.2.1 ?_
    exact j_iret F dX5_count_135 ((by unfold S_count; rw [if_neg h1_0, if_neg h1_1, if_neg h1_2, if_neg h1_3, if_neg h1_4, if_neg h1_5, if_neg h1_6, if_neg h1_7, if_neg h1_8, if_pos h1_9]; exact ⟨rfl, hC⟩))
  refine j_tableOut F.1 136 dX5_count_1 (by have a0 : (w).toInt ≠ 0 := fun z => h1_0 (Int32.toInt_inj.mp (by rw [z]; rfl)); have a1 : (w).toInt ≠ 1 := fun z => h1_1 (Int32.toInt_inj.mp (by rw [z]; rfl)); have a2 : (w).toInt ≠ 2 := fun z => h1_2 (Int32.toInt_inj.mp (by rw [z]; rfl)); have a3 : (w).toInt ≠ 3 := fun z => h1_3 (Int32.toInt_inj.mp (by rw [z]; rfl)); have a4 : (w).toInt ≠ 4 := fun z => h1_4 (Int32.toInt_inj.mp (by rw [z]; rfl)); have a5 : (w).toInt ≠ 5 := fun z => h1_5 (Int32.toInt_inj.mp (by rw [z]; rfl)); have a6 : (w).toInt ≠ 6 := fun z => h1_6 (Int32.toInt_inj.mp (by rw [z]; rfl)); have a7 : (w).toInt ≠ 7 := fun z => h1_7 (Int32.toInt_inj.mp (by rw [z]; rfl)); have a8 : (w).toInt ≠ 8 := fun z => h1_8 (Int32.toInt_inj.mp (by rw [z]; rfl)); have a9 : (w).toInt ≠ 9 := fun z => h1_9 (Int32.toInt_inj.mp (by rw [z]; rfl)); omega) (by decide) ?_
  refine j_ldc F cn_X5_47 dX5_count_136 ?_
  exact j_iret F dX5_count_138 ((by unfold S_count; rw [if_neg h1_0, if_neg h1_1, if_neg h1_2, if_neg h1_3, if_neg h1_4, if_neg h1_5, if_neg h1_6, if_neg h1_7, if_neg h1_8, if_neg h1_9]; exact ⟨rfl, hC⟩))
