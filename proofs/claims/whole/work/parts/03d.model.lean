/-! The reference: the steps of a look. -/
def A_chg (f : Nat → Int32) (i : Nat) : Int32 := if f (ix i 0) = 0 then f (ix i 5) else f (ix i 8)
def A_ans (f : Nat → Int32) (i : Nat) : Int32 := if f (ix i 0) = 0 then f (ix i 1) else f (ix i 7)
def bnd (x : Int64) : Int32 := if x < -1000000000 ∨ 1000000000 < x then 2000000000 else x.toInt32
def A_made (a x y : Int32) : Int32 := if x = 2000000000 ∨ y = 2000000000 then 2000000000 else if a = 1 then bnd (x.toInt64 + y.toInt64) else if a = 2 then bnd (x.toInt64 - y.toInt64) else if a = 3 then bnd (x.toInt64 * y.toInt64) else if a = 4 then (if y < x then x else y) else y
def A_take (f : Nat → Int32) (i : Nat) : Nat → Int32 := A_uses (upd f 3 (f 3 + 1)) i
def A_keep (f : Nat → Int32) (i : Nat) : Nat → Int32 := A_uses (upd (upd f (ix i 9) (f 0)) 2 (upd f (ix i 9) (f 0) 2 + 1)) i
/-- what a worked-out cell is laid down with: ds is 1 if its answer is the same as before, ch the revision of its change -/
def A_end1 (f : Nat → Int32) (i : Nat) (ds ch its many o2 : Int32) : Nat → Int32 :=
  let f2 := upd (upd f 6 (f 6 + ds)) (ix i 8) ch
  let f4 := upd (upd f2 (ix i 6) 1) (ix i 7) its
  let f5 := upd f4 (ix i 9) (f4 0)
  let f6 := upd f5 (ix i 10) many
  let f8 := upd (upd f6 (ix i 11) (f6 (ix i 2))) (ix i 12) o2
  A_uses (upd f8 1 (f8 1 + 1)) i
def A_end (f : Nat → Int32) (i : Nat) (its many o2 : Int32) : Nat → Int32 :=
  if f (ix i 6) = 1 ∧ f (ix i 7) = its then A_end1 f i 1 (f (ix i 8)) its many o2 else A_end1 f i 0 (f 0) its many o2
def M_end (v : rcM) (i dp : Nat) (its many o2 : Int32) : rcM := rcu (rcr v 1 (A_end (v 1) i its many o2)) 0 10 (nI dp)
def M_push (v : rcM) (i dp : Nat) : rcM := rcu (rcu (rcu (rcu v 5 dp (nI i)) 6 dp (if v 1 (ix i 6) = 1 then 0 else 1)) 7 dp 0) 0 10 (nI (dp + 1))
def M_enters (v : rcM) (i dp : Nat) : rcM := if v 1 (ix i 0) = 0 then v else if v 1 (ix i 6) = 1 ∧ v 1 (ix i 9) = v 1 0 then rcr v 1 (A_take (v 1) i) else if opn (v 5) (nI i) dp = true then rcu v 0 11 1 else M_push v i dp
/-- a cell that is to be begun finds room -/
def mayPush (v : rcM) (i dp : Nat) : Prop := ¬ v 1 (ix i 0) = 0 → ¬ (v 1 (ix i 6) = 1 ∧ v 1 (ix i 9) = v 1 0) → ¬ opn (v 5) (nI i) dp = true → dp < 10
set_option maxHeartbeats 4000000 in
set_option maxRecDepth 100000 in
theorem k_changedAt {Y : rcY} {la : Launch} {v : rcM} {i : Nat} (hi : i < 10) : rcT shM 13 Y la 1 (yX6_changedAt, cX6_changedAt, 2, (some .int)) [.ref (Y.2.1 0), .int (nI i)] (v) (rI (A_chg (v 1) i) v) := by
  refine rcT.of (by decide +kernel) (Nat.le_of_ble_eq_true rfl) (fun X F hn => ?_)
  refine j_aload_n F.1 dX6_changedAt_0 rfl ?_
  refine j_iload_n F.1 dX6_changedAt_1 rfl ?_
  refine j_iconst F.1 (0) dX6_changedAt_2 (by decide) ?_
  refine j_callVi F (k_of (by assumption) (by decide)) co_X6_of ml_X6_55 im_X6_of se_X6_of in_X6 rc_X6_of rfl (by decide) (by decide) ⟨by decide, rfl⟩ rfl rfl (Nat.le_of_ble_eq_true rfl) dX6_changedAt_3 ?_
  refine j_if_ne F.1 18 dX6_changedAt_6 (by decide) (fun h6 => ?_) (fun h6 => ?_)
  · refine j_aload_n F.1 dX6_changedAt_18 rfl ?_
    refine j_iload_n F.1 dX6_changedAt_19 rfl ?_
    refine j_bipush F.1 (8) dX6_changedAt_20 (by decide) ?_
    refine j_callVi F (k_of (by assumption) (by decide)) co_X6_of ml_X6_55 im_X6_of se_X6_of in_X6 rc_X6_of rfl (by decide) (by decide) ⟨by decide, rfl⟩ rfl rfl (Nat.le_of_ble_eq_true rfl) dX6_changedAt_22 ?_
    exact j_iret F dX6_changedAt_25 ((rIe (by unfold A_chg; first | rw [if_pos h6] | rw [if_neg h6]) rfl))
  · refine j_aload_n F.1 dX6_changedAt_9 rfl ?_
    refine j_iload_n F.1 dX6_changedAt_10 rfl ?_
    refine j_iconst F.1 (5) dX6_changedAt_11 (by decide) ?_
    refine j_callVi F (k_of (by assumption) (by decide)) co_X6_of ml_X6_55 im_X6_of se_X6_of in_X6 rc_X6_of rfl (by decide) (by decide) ⟨by decide, rfl⟩ rfl rfl (Nat.le_of_ble_eq_true rfl) dX6_changedAt_12 ?_
    refine j_goto F.1 25 dX6_changedAt_15 (by decide) ?_
    exact j_iret F dX6_changedAt_25 ((rIe (by unfold A_chg; first | rw [if_pos h6] | rw [if_neg h6]) rfl))
set_option maxHeartbeats 4000000 in
set_option maxRecDepth 100000 in
theorem k_answerOf {Y : rcY} {la : Launch} {v : rcM} {i : Nat} (hi : i < 10) : rcT shM 13 Y la 1 (yX6_answerOf, cX6_answerOf, 2, (some .int)) [.ref (Y.2.1 0), .int (nI i)] (v) (rI (A_ans (v 1) i) v) := by
  refine rcT.of (by decide +kernel) (Nat.le_of_ble_eq_true rfl) (fun X F hn => ?_)
  refine j_aload_n F.1 dX6_answerOf_0 rfl ?_
  refine j_iload_n F.1 dX6_answerOf_1 rfl ?_
  refine j_iconst F.1 (0) dX6_answerOf_2 (by decide) ?_
  refine j_callVi F (k_of (by assumption) (by decide)) co_X6_of ml_X6_55 im_X6_of se_X6_of in_X6 rc_X6_of rfl (by decide) (by decide) ⟨by decide, rfl⟩ rfl rfl (Nat.le_of_ble_eq_true rfl) dX6_answerOf_3 ?_
  refine j_if_ne F.1 18 dX6_answerOf_6 (by decide) (fun h6 => ?_) (fun h6 => ?_)
  · refine j_aload_n F.1 dX6_answerOf_18 rfl ?_
    refine j_iload_n F.1 dX6_answerOf_19 rfl ?_
    refine j_bipush F.1 (7) dX6_answerOf_20 (by decide) ?_
    refine j_callVi F (k_of (by assumption) (by decide)) co_X6_of ml_X6_55 im_X6_of se_X6_of in_X6 rc_X6_of rfl (by decide) (by decide) ⟨by decide, rfl⟩ rfl rfl (Nat.le_of_ble_eq_true rfl) dX6_answerOf_22 ?_
    exact j_iret F dX6_answerOf_25 ((rIe (by unfold A_ans; first | rw [if_pos h6] | rw [if_neg h6]) rfl))
  · refine j_aload_n F.1 dX6_answerOf_9 rfl ?_
    refine j_iload_n F.1 dX6_answerOf_10 rfl ?_
    refine j_iconst F.1 (1) dX6_answerOf_11 (by decide) ?_
    refine j_callVi F (k_of (by assumption) (by decide)) co_X6_of ml_X6_55 im_X6_of se_X6_of in_X6 rc_X6_of rfl (by decide) (by decide) ⟨by decide, rfl⟩ rfl rfl (Nat.le_of_ble_eq_true rfl) dX6_answerOf_12 ?_
    refine j_goto F.1 25 dX6_answerOf_15 (by decide) ?_
    exact j_iret F dX6_answerOf_25 ((rIe (by unfold A_ans; first | rw [if_pos h6] | rw [if_neg h6]) rfl))
set_option maxHeartbeats 4000000 in
set_option maxRecDepth 100000 in
theorem k_bounded {Y : rcY} {la : Launch} {v : rcM} {x : Int64} : rcT shM 13 Y la 0 (yX6_bounded, cX6_bounded, 2, (some .int)) [.long x] (v) (rI (bnd x) v) := by
  refine rcT.of (by decide +kernel) (Nat.le_of_ble_eq_true rfl) (fun X F hn => ?_)
  refine j_lload_n F.1 dX6_bounded_0 rfl ?_
  refine j_ldc2 F cl_X6_102 dX6_bounded_1 ?_
  refine j_lcmp F.1 dX6_bounded_4 ?_
  refine j_if_lt F.1 16 dX6_bounded_5 (by decide) (fun h5 => ?_) (fun h5 => ?_)
  · rw [lg_cmp_lt] at h5
    refine j_ldc F cn_X6_106 dX6_bounded_16 ?_
    refine j_goto F.1 23 dX6_bounded_18 (by decide) ?_
    exact j_iret F dX6_bounded_23 ((rIe (by unfold bnd; first | rw [if_pos (Or.inl h5)] | rw [if_pos (Or.inr (Int64.not_le.mp h13))] | rw [if_neg (fun z => z.elim h5 (Int64.not_lt.mpr h13))]) rfl))
  · rw [lg_cmp_lt] at h5
    refine j_lload_n F.1 dX6_bounded_8 rfl ?_
    refine j_ldc2 F cl_X6_104 dX6_bounded_9 ?_
    refine j_lcmp F.1 dX6_bounded_12 ?_
    refine j_if_le F.1 21 dX6_bounded_13 (by decide) (fun h13 => ?_) (fun h13 => ?_)
    · rw [lg_cmp_le] at h13
      refine j_lload_n F.1 dX6_bounded_21 rfl ?_
      refine j_l2i F.1 dX6_bounded_22 ?_
      exact j_iret F dX6_bounded_23 ((rIe (by unfold bnd; first | rw [if_pos (Or.inl h5)] | rw [if_pos (Or.inr (Int64.not_le.mp h13))] | rw [if_neg (fun z => z.elim h5 (Int64.not_lt.mpr h13))]) rfl))
    · rw [lg_cmp_le] at h13
      refine j_ldc F cn_X6_106 dX6_bounded_16 ?_
      refine j_goto F.1 23 dX6_bounded_18 (by decide) ?_
      exact j_iret F dX6_bounded_23 ((rIe (by unfold bnd; first | rw [if_pos (Or.inl h5)] | rw [if_pos (Or.inr (Int64.not_le.mp h13))] | rw [if_neg (fun z => z.elim h5 (Int64.not_lt.mpr h13))]) rfl))
set_option maxHeartbeats 4000000 in
set_option maxRecDepth 100000 in
theorem k_made {Y : rcY} {la : Launch} {v : rcM} {a x y : Int32} : rcT shM 13 Y la 1 (yX6_made, cX6_made, 3, (some .int)) [.int a, .int x, .int y] (v) (rI (A_made a x y) v) := by
  refine rcT.of (by decide +kernel) (Nat.le_of_ble_eq_true rfl) (fun X F hn => ?_)
  refine j_iload_n F.1 dX6_made_0 rfl ?_
  refine j_ldc F cn_X6_106 dX6_made_1 ?_
  refine j_icmp_eq F.1 12 dX6_made_3 (by decide) (fun h3 => ?_) (fun h3 => ?_)
  · refine j_ldc F cn_X6_106 dX6_made_12 ?_
    exact j_iret F dX6_made_14 ((rIe (by unfold A_made; rw [if_pos (by first | exact Or.inl h3 | exact Or.inr h9)]) rfl))
  · refine j_iload_n F.1 dX6_made_6 rfl ?_
    refine j_ldc F cn_X6_106 dX6_made_7 ?_
    refine j_icmp_ne F.1 15 dX6_made_9 (by decide) (fun h9 => ?_) (fun h9 => ?_)
    · refine j_iload_n F.1 dX6_made_15 rfl ?_
      by_cases h16_1 : a = 1
      · refine j_tableIn F.1 48 dX6_made_16 (by rw [h16_1]; decide) (by rw [h16_1]; decide) (by rw [h16_1]; rfl) (by decide) ?_
        refine j_iload_n F.1 dX6_made_48 rfl ?_
        refine j_i2l F.1 dX6_made_49 ?_
        refine j_iload_n F.1 dX6_made_50 rfl ?_
        refine j_i2l F.1 dX6_made_51 ?_
        refine j_ladd F.1 dX6_made_52 ?_
        refine j_callSi F (k_bounded) co_X6_bounded ml_X6_107 st_X6_bounded in_X6 rc_X6_bounded rfl (by decide) (by decide) rfl (Nat.le_of_ble_eq_true rfl) dX6_made_53 ?_
        exact j_iret F dX6_made_56 ((rIe (by unfold A_made; rw [if_neg (fun z => z.elim h3 h9), if_pos h16_1]) rfl))
      by_cases h16_2 : a = 2
      · refine j_tableIn F.1 57 dX6_made_16 (by rw [h16_2]; decide) (by rw [h16_2]; decide) (by rw [h16_2]; rfl) (by decide) ?_
        refine j_iload_n F.1 dX6_made_57 rfl ?_
        refine j_i2l F.1 dX6_made_58 ?_
        refine j_iload_n F.1 dX6_made_59 rfl ?_
        refine j_i2l F.1 dX6_made_60 ?_
        refine j_lsub F.1 dX6_made_61 ?_
        refine j_callSi F (k_bounded) co_X6_bounded ml_X6_107 st_X6_bounded in_X6 rc_X6_bounded rfl (by decide) (by decide) rfl (Nat.le_of_ble_eq_true rfl) dX6_made_62 ?_
        exact j_iret F dX6_made_65 ((rIe (by unfold A_made; rw [if_neg (fun z => z.elim h3 h9), if_neg h16_1, if_pos h16_2]) rfl))
      by_cases h16_3 : a = 3
      · refine j_tableIn F.1 66 dX6_made_16 (by rw [h16_3]; decide) (by rw [h16_3]; decide) (by rw [h16_3]; rfl) (by decide) ?_
        refine j_iload_n F.1 dX6_made_66 rfl ?_
        refine j_i2l F.1 dX6_made_67 ?_
        refine j_iload_n F.1 dX6_made_68 rfl ?_
        refine j_i2l F.1 dX6_made_69 ?_
        refine j_lmul F.1 dX6_made_70 ?_
        refine j_callSi F (k_bounded) co_X6_bounded ml_X6_107 st_X6_bounded in_X6 rc_X6_bounded rfl (by decide) (by decide) rfl (Nat.le_of_ble_eq_true rfl) dX6_made_71 ?_
        exact j_iret F dX6_made_74 ((rIe (by unfold A_made; rw [if_neg (fun z => z.elim h3 h9), if_neg h16_1, if_neg h16_2, if_pos h16_3]) rfl))
      by_cases h16_4 : a = 4
      · refine j_tableIn F.1 75 dX6_made_16 (by rw [h16_4]; decide) (by rw [h16_4]; decide) (by rw [h16_4]; rfl) (by decide) ?_
        refine j_iload_n F.1 dX6_made_75 rfl ?_
        refine j_iload_n F.1 dX6_made_76 rfl ?_
        refine j_icmp_le F.1 84 dX6_made_77 (by decide) (fun h77 => ?_) (fun h77 => ?_)
        · refine j_iload_n F.1 dX6_made_84 rfl ?_
          exact j_iret F dX6_made_85 ((rIe (by unfold A_made; rw [if_neg (fun z => z.elim h3 h9), if_neg h16_1, if_neg h16_2, if_neg h16_3, if_pos h16_4]; first | rw [if_neg (Int32.not_lt.mpr h77)] | rw [if_pos (Int32.not_le.mp h77)]) rfl))
        · refine j_iload_n F.1 dX6_made_80 rfl ?_
          refine j_goto F.1 85 dX6_made_81 (by decide) ?_
          exact j_iret F dX6_made_85 ((rIe (by unfold A_made; rw [if_neg (fun z => z.elim h3 h9), if_neg h16_1, if_neg h16_2, if_neg h16_3, if_pos h16_4]; first | rw [if_neg (Int32.not_lt.mpr h77)] | rw [if_pos (Int32.not_le.mp h77)]) rfl))
      refine j_tableOut F.1 86 dX6_made_16 (by have a0 : (a).toInt ≠ 1 := fun z => h16_1 (Int32.toInt_inj.mp (by rw [z]; rfl)); have a1 : (a).toInt ≠ 2 := fun z => h16_2 (Int32.toInt_inj.mp (by rw [z]; rfl)); have a2 : (a).toInt ≠ 3 := fun z => h16_3 (Int32.toInt_inj.mp (by rw [z]; rfl)); have a3 : (a).toInt ≠ 4 := fun z => h16_4 (Int32.toInt_inj.mp (by rw [z]; rfl)); omega) (by decide) ?_
      refine j_iload_n F.1 dX6_made_86 rfl ?_
      exact j_iret F dX6_made_87 ((rIe (by unfold A_made; rw [if_neg (fun z => z.elim h3 h9), if_neg h16_1, if_neg h16_2, if_neg h16_3, if_neg h16_4]) rfl))
    · refine j_ldc F cn_X6_106 dX6_made_12 ?_
      exact j_iret F dX6_made_14 ((rIe (by unfold A_made; rw [if_pos (by first | exact Or.inl h3 | exact Or.inr h9)]) rfl))
set_option maxHeartbeats 4000000 in
set_option maxRecDepth 100000 in
theorem k_enters {Y : rcY} {la : Launch} {v : rcM} {i dp : Nat} (hi : i < 10) (hd : v 0 10 = nI dp) (hdp : dp ≤ 10) (hp : mayPush v i dp) : rcT shM 13 Y la 2 (yX6_enters, cX6_enters, 2, none) [.ref (Y.2.1 0), .int (nI i)] (v) (rV (M_enters v i dp)) := by
  refine rcT.of (by decide +kernel) (Nat.le_of_ble_eq_true rfl) (fun X F hn => ?_)
  refine j_aload_n F.1 dX6_enters_0 rfl ?_
  refine j_iload_n F.1 dX6_enters_1 rfl ?_
  refine j_iconst F.1 (0) dX6_enters_2 (by decide) ?_
  refine j_callVi F (k_of (by assumption) (by decide)) co_X6_of ml_X6_55 im_X6_of se_X6_of in_X6 rc_X6_of rfl (by decide) (by decide) ⟨by decide, rfl⟩ rfl rfl (Nat.le_of_ble_eq_true rfl) dX6_enters_3 ?_
  refine j_if_ne F.1 10 dX6_enters_6 (by decide) (fun h6 => ?_) (fun h6 => ?_)
  · refine j_aload_n F.1 dX6_enters_10 rfl ?_
    refine j_iload_n F.1 dX6_enters_11 rfl ?_
    refine j_bipush F.1 (6) dX6_enters_12 (by decide) ?_
    refine j_callVi F (k_of (by assumption) (by decide)) co_X6_of ml_X6_55 im_X6_of se_X6_of in_X6 rc_X6_of rfl (by decide) (by decide) ⟨by decide, rfl⟩ rfl rfl (Nat.le_of_ble_eq_true rfl) dX6_enters_14 ?_
    refine j_iconst F.1 (1) dX6_enters_17 (by decide) ?_
    refine j_icmp_ne F.1 53 dX6_enters_18 (by decide) (fun h18 => ?_) (fun h18 => ?_)
    · refine j_aload_n F.1 dX6_enters_53 rfl ?_
      refine j_iload_n F.1 dX6_enters_54 rfl ?_
      refine j_callVi F (k_isOpen hd hdp) co_X6_isOpen ml_X6_95 im_X6_isOpen se_X6_isOpen in_X6 rc_X6_isOpen rfl (by decide) (by decide) ⟨by decide, rfl⟩ rfl rfl (Nat.le_of_ble_eq_true rfl) dX6_enters_55 ?_
      refine j_if_eq F.1 67 dX6_enters_58 (by decide) (fun h58 => ?_) (fun h58 => ?_)
      · rw [b2_0] at h58
        refine j_aload_n F.1 dX6_enters_67 rfl ?_
        refine j_getr F (k := 6) inX6 rfl (by decide) fl_X6_22 ⟨by decide, rfl⟩ rfl dX6_enters_68 ?_
        refine j_aload_n F.1 dX6_enters_71 rfl ?_
        refine j_geti F (k := 10) inX6 rfl (by decide) fl_X6_88 ⟨by decide, rfl⟩ rfl dX6_enters_72 ?_
        refine j_iload_n F.1 dX6_enters_75 rfl ?_
        refine j_iast F ⟨by decide, rfl⟩ hd (hp h6 (fun z => by first | exact h18 z.1 | exact h34 z.2) h58) (by decide) dX6_enters_76 ?_
        refine j_aload_n F.1 dX6_enters_77 rfl ?_
        refine j_getr F (k := 7) inX6 rfl (by decide) fl_X6_25 ⟨by decide, rfl⟩ rfl dX6_enters_78 ?_
        refine j_aload_n F.1 dX6_enters_81 rfl ?_
        refine j_geti F (k := 10) inX6 rfl (by decide) fl_X6_88 ⟨by decide, rfl⟩ rfl dX6_enters_82 ?_
        refine j_aload_n F.1 dX6_enters_85 rfl ?_
        refine j_iload_n F.1 dX6_enters_86 rfl ?_
        refine j_bipush F.1 (6) dX6_enters_87 (by decide) ?_
        refine j_callVi F (k_of (by assumption) (by decide)) co_X6_of ml_X6_55 im_X6_of se_X6_of in_X6 rc_X6_of rfl (by decide) (by decide) ⟨by decide, rfl⟩ rfl rfl (Nat.le_of_ble_eq_true rfl) dX6_enters_89 ?_
        refine j_top (y := v 1 (ix i 6)) (by rw [rcu_ne (by decide)]) ?_
        refine j_iconst F.1 (1) dX6_enters_92 (by decide) ?_
        refine j_icmp_ne F.1 100 dX6_enters_93 (by decide) (fun h93 => ?_) (fun h93 => ?_)
        · refine j_iconst F.1 (1) dX6_enters_100 (by decide) ?_
          refine j_top (y := if v 1 (ix i 6) = 1 then 0 else 1) (by first | rw [if_pos h93] | rw [if_neg h93]) ?_
          refine j_iast F ⟨by decide, rfl⟩ (by rw [rcu_ne (by decide)]; exact hd) (hp h6 (fun z => by first | exact h18 z.1 | exact h34 z.2) h58) (by decide) dX6_enters_101 ?_
          refine j_aload_n F.1 dX6_enters_102 rfl ?_
          refine j_getr F (k := 8) inX6 rfl (by decide) fl_X6_28 ⟨by decide, rfl⟩ rfl dX6_enters_103 ?_
          refine j_aload_n F.1 dX6_enters_106 rfl ?_
          refine j_geti F (k := 10) inX6 rfl (by decide) fl_X6_88 ⟨by decide, rfl⟩ rfl dX6_enters_107 ?_
          refine j_iconst F.1 (0) dX6_enters_110 (by decide) ?_
          refine j_iast F ⟨by decide, rfl⟩ (by rw [rcu_ne (by decide), rcu_ne (by decide)]; exact hd) (hp h6 (fun z => by first | exact h18 z.1 | exact h34 z.2) h58) (by decide) dX6_enters_111 ?_
          refine j_aload_n F.1 dX6_enters_112 rfl ?_
          refine j_dup F.1 dX6_enters_113 rfl ?_
          refine j_geti F (k := 10) inX6 rfl (by decide) fl_X6_88 ⟨by decide, rfl⟩ rfl dX6_enters_114 ?_
          refine j_iconst F.1 (1) dX6_enters_117 (by decide) ?_
          refine j_iadd F.1 dX6_enters_118 ?_
          refine j_top (y := nI (dp + 1)) (by rw [rcu_ne (by decide), rcu_ne (by decide), rcu_ne (by decide), hd, nI_1]) ?_
          refine j_puti F (k := 10) inX6 tyX6_ok nmX6 rfl (by decide) fl_X6_88 rfl rfl ⟨by decide, rfl⟩ rfl dX6_enters_119 ?_
          exact j_vret F dX6_enters_122 ((rVe (by unfold M_enters; rw [if_neg h6, if_neg (show ¬ (v 1 (ix i 6) = 1 ∧ v 1 (ix i 9) = v 1 0) from (fun z => by first | exact h18 z.1 | exact h34 z.2)), if_neg h58]; rfl)))
        · refine j_iconst F.1 (0) dX6_enters_96 (by decide) ?_
          refine j_goto F.1 101 dX6_enters_97 (by decide) ?_
          refine j_top (y := if v 1 (ix i 6) = 1 then 0 else 1) (by first | rw [if_pos h93] | rw [if_neg h93]) ?_
          refine j_iast F ⟨by decide, rfl⟩ (by rw [rcu_ne (by decide)]; exact hd) (hp h6 (fun z => by first | exact h18 z.1 | exact h34 z.2) h58) (by decide) dX6_enters_101 ?_
          refine j_aload_n F.1 dX6_enters_102 rfl ?_
          refine j_getr F (k := 8) inX6 rfl (by decide) fl_X6_28 ⟨by decide, rfl⟩ rfl dX6_enters_103 ?_
          refine j_aload_n F.1 dX6_enters_106 rfl ?_
          refine j_geti F (k := 10) inX6 rfl (by decide) fl_X6_88 ⟨by decide, rfl⟩ rfl dX6_enters_107 ?_
          refine j_iconst F.1 (0) dX6_enters_110 (by decide) ?_
          refine j_iast F ⟨by decide, rfl⟩ (by rw [rcu_ne (by decide), rcu_ne (by decide)]; exact hd) (hp h6 (fun z => by first | exact h18 z.1 | exact h34 z.2) h58) (by decide) dX6_enters_111 ?_
          refine j_aload_n F.1 dX6_enters_112 rfl ?_
          refine j_dup F.1 dX6_enters_113 rfl ?_
          refine j_geti F (k := 10) inX6 rfl (by decide) fl_X6_88 ⟨by decide, rfl⟩ rfl dX6_enters_114 ?_
          refine j_iconst F.1 (1) dX6_enters_117 (by decide) ?_
          refine j_iadd F.1 dX6_enters_118 ?_
          refine j_top (y := nI (dp + 1)) (by rw [rcu_ne (by decide), rcu_ne (by decide), rcu_ne (by decide), hd, nI_1]) ?_
          refine j_puti F (k := 10) inX6 tyX6_ok nmX6 rfl (by decide) fl_X6_88 rfl rfl ⟨by decide, rfl⟩ rfl dX6_enters_119 ?_
          exact j_vret F dX6_enters_122 ((rVe (by unfold M_enters; rw [if_neg h6, if_neg (show ¬ (v 1 (ix i 6) = 1 ∧ v 1 (ix i 9) = v 1 0) from (fun z => by first | exact h18 z.1 | exact h34 z.2)), if_neg h58]; rfl)))
      · rw [b2_0, Classical.not_not] at h58
        refine j_aload_n F.1 dX6_enters_61 rfl ?_
        refine j_iconst F.1 (1) dX6_enters_62 (by decide) ?_
        refine j_putz F (k := 11) inX6 tyX6_ok nmX6 rfl (by decide) fl_X6_98 rfl rfl ⟨by decide, rfl⟩ rfl (by first | exact Or.inl rfl | exact Or.inr rfl | exact rcb_01 _) dX6_enters_63 ?_
        exact j_vret F dX6_enters_66 ((rVe (by unfold M_enters; rw [if_neg h6, if_neg (show ¬ (v 1 (ix i 6) = 1 ∧ v 1 (ix i 9) = v 1 0) from (fun z => by first | exact h18 z.1 | exact h34 z.2)), if_pos h58])))
    · refine j_aload_n F.1 dX6_enters_21 rfl ?_
      refine j_iload_n F.1 dX6_enters_22 rfl ?_
      refine j_bipush F.1 (9) dX6_enters_23 (by decide) ?_
      refine j_callVi F (k_of (by assumption) (by decide)) co_X6_of ml_X6_55 im_X6_of se_X6_of in_X6 rc_X6_of rfl (by decide) (by decide) ⟨by decide, rfl⟩ rfl rfl (Nat.le_of_ble_eq_true rfl) dX6_enters_25 ?_
      refine j_aload_n F.1 dX6_enters_28 rfl ?_
      refine j_getr F (k := 0) inX6 rfl (by decide) fl_X6_7 ⟨by decide, rfl⟩ rfl dX6_enters_29 ?_
      refine j_iconst F.1 (0) dX6_enters_32 (by decide) ?_
      refine j_iald F ⟨by decide, rfl⟩ rfl (by decide) (by decide) dX6_enters_33 ?_
      refine j_icmp_ne F.1 53 dX6_enters_34 (by decide) (fun h34 => ?_) (fun h34 => ?_)
      · refine j_aload_n F.1 dX6_enters_53 rfl ?_
        refine j_iload_n F.1 dX6_enters_54 rfl ?_
        refine j_callVi F (k_isOpen hd hdp) co_X6_isOpen ml_X6_95 im_X6_isOpen se_X6_isOpen in_X6 rc_X6_isOpen rfl (by decide) (by decide) ⟨by decide, rfl⟩ rfl rfl (Nat.le_of_ble_eq_true rfl) dX6_enters_55 ?_
        refine j_if_eq F.1 67 dX6_enters_58 (by decide) (fun h58 => ?_) (fun h58 => ?_)
        · rw [b2_0] at h58
          refine j_aload_n F.1 dX6_enters_67 rfl ?_
          refine j_getr F (k := 6) inX6 rfl (by decide) fl_X6_22 ⟨by decide, rfl⟩ rfl dX6_enters_68 ?_
          refine j_aload_n F.1 dX6_enters_71 rfl ?_
          refine j_geti F (k := 10) inX6 rfl (by decide) fl_X6_88 ⟨by decide, rfl⟩ rfl dX6_enters_72 ?_
          refine j_iload_n F.1 dX6_enters_75 rfl ?_
          refine j_iast F ⟨by decide, rfl⟩ hd (hp h6 (fun z => by first | exact h18 z.1 | exact h34 z.2) h58) (by decide) dX6_enters_76 ?_
          refine j_aload_n F.1 dX6_enters_77 rfl ?_
          refine j_getr F (k := 7) inX6 rfl (by decide) fl_X6_25 ⟨by decide, rfl⟩ rfl dX6_enters_78 ?_
          refine j_aload_n F.1 dX6_enters_81 rfl ?_
          refine j_geti F (k := 10) inX6 rfl (by decide) fl_X6_88 ⟨by decide, rfl⟩ rfl dX6_enters_82 ?_
          refine j_aload_n F.1 dX6_enters_85 rfl ?_
          refine j_iload_n F.1 dX6_enters_86 rfl ?_
          refine j_bipush F.1 (6) dX6_enters_87 (by decide) ?_
          refine j_callVi F (k_of (by assumption) (by decide)) co_X6_of ml_X6_55 im_X6_of se_X6_of in_X6 rc_X6_of rfl (by decide) (by decide) ⟨by decide, rfl⟩ rfl rfl (Nat.le_of_ble_eq_true rfl) dX6_enters_89 ?_
          refine j_top (y := v 1 (ix i 6)) (by rw [rcu_ne (by decide)]) ?_
          refine j_iconst F.1 (1) dX6_enters_92 (by decide) ?_
          refine j_icmp_ne F.1 100 dX6_enters_93 (by decide) (fun h93 => ?_) (fun h93 => ?_)
          · refine j_iconst F.1 (1) dX6_enters_100 (by decide) ?_
            refine j_top (y := if v 1 (ix i 6) = 1 then 0 else 1) (by first | rw [if_pos h93] | rw [if_neg h93]) ?_
            refine j_iast F ⟨by decide, rfl⟩ (by rw [rcu_ne (by decide)]; exact hd) (hp h6 (fun z => by first | exact h18 z.1 | exact h34 z.2) h58) (by decide) dX6_enters_101 ?_
            refine j_aload_n F.1 dX6_enters_102 rfl ?_
            refine j_getr F (k := 8) inX6 rfl (by decide) fl_X6_28 ⟨by decide, rfl⟩ rfl dX6_enters_103 ?_
            refine j_aload_n F.1 dX6_enters_106 rfl ?_
            refine j_geti F (k := 10) inX6 rfl (by decide) fl_X6_88 ⟨by decide, rfl⟩ rfl dX6_enters_107 ?_
            refine j_iconst F.1 (0) dX6_enters_110 (by decide) ?_
            refine j_iast F ⟨by decide, rfl⟩ (by rw [rcu_ne (by decide), rcu_ne (by decide)]; exact hd) (hp h6 (fun z => by first | exact h18 z.1 | exact h34 z.2) h58) (by decide) dX6_enters_111 ?_
            refine j_aload_n F.1 dX6_enters_112 rfl ?_
            refine j_dup F.1 dX6_enters_113 rfl ?_
            refine j_geti F (k := 10) inX6 rfl (by decide) fl_X6_88 ⟨by decide, rfl⟩ rfl dX6_enters_114 ?_
            refine j_iconst F.1 (1) dX6_enters_117 (by decide) ?_
            refine j_iadd F.1 dX6_enters_118 ?_
            refine j_top (y := nI (dp + 1)) (by rw [rcu_ne (by decide), rcu_ne (by decide), rcu_ne (by decide), hd, nI_1]) ?_
            refine j_puti F (k := 10) inX6 tyX6_ok nmX6 rfl (by decide) fl_X6_88 rfl rfl ⟨by decide, rfl⟩ rfl dX6_enters_119 ?_
            exact j_vret F dX6_enters_122 ((rVe (by unfold M_enters; rw [if_neg h6, if_neg (show ¬ (v 1 (ix i 6) = 1 ∧ v 1 (ix i 9) = v 1 0) from (fun z => by first | exact h18 z.1 | exact h34 z.2)), if_neg h58]; rfl)))
          · refine j_iconst F.1 (0) dX6_enters_96 (by decide) ?_
            refine j_goto F.1 101 dX6_enters_97 (by decide) ?_
            refine j_top (y := if v 1 (ix i 6) = 1 then 0 else 1) (by first | rw [if_pos h93] | rw [if_neg h93]) ?_
            refine j_iast F ⟨by decide, rfl⟩ (by rw [rcu_ne (by decide)]; exact hd) (hp h6 (fun z => by first | exact h18 z.1 | exact h34 z.2) h58) (by decide) dX6_enters_101 ?_
            refine j_aload_n F.1 dX6_enters_102 rfl ?_
            refine j_getr F (k := 8) inX6 rfl (by decide) fl_X6_28 ⟨by decide, rfl⟩ rfl dX6_enters_103 ?_
            refine j_aload_n F.1 dX6_enters_106 rfl ?_
            refine j_geti F (k := 10) inX6 rfl (by decide) fl_X6_88 ⟨by decide, rfl⟩ rfl dX6_enters_107 ?_
            refine j_iconst F.1 (0) dX6_enters_110 (by decide) ?_
            refine j_iast F ⟨by decide, rfl⟩ (by rw [rcu_ne (by decide), rcu_ne (by decide)]; exact hd) (hp h6 (fun z => by first | exact h18 z.1 | exact h34 z.2) h58) (by decide) dX6_enters_111 ?_
            refine j_aload_n F.1 dX6_enters_112 rfl ?_
            refine j_dup F.1 dX6_enters_113 rfl ?_
            refine j_geti F (k := 10) inX6 rfl (by decide) fl_X6_88 ⟨by decide, rfl⟩ rfl dX6_enters_114 ?_
            refine j_iconst F.1 (1) dX6_enters_117 (by decide) ?_
            refine j_iadd F.1 dX6_enters_118 ?_
            refine j_top (y := nI (dp + 1)) (by rw [rcu_ne (by decide), rcu_ne (by decide), rcu_ne (by decide), hd, nI_1]) ?_
            refine j_puti F (k := 10) inX6 tyX6_ok nmX6 rfl (by decide) fl_X6_88 rfl rfl ⟨by decide, rfl⟩ rfl dX6_enters_119 ?_
            exact j_vret F dX6_enters_122 ((rVe (by unfold M_enters; rw [if_neg h6, if_neg (show ¬ (v 1 (ix i 6) = 1 ∧ v 1 (ix i 9) = v 1 0) from (fun z => by first | exact h18 z.1 | exact h34 z.2)), if_neg h58]; rfl)))
        · rw [b2_0, Classical.not_not] at h58
          refine j_aload_n F.1 dX6_enters_61 rfl ?_
          refine j_iconst F.1 (1) dX6_enters_62 (by decide) ?_
          refine j_putz F (k := 11) inX6 tyX6_ok nmX6 rfl (by decide) fl_X6_98 rfl rfl ⟨by decide, rfl⟩ rfl (by first | exact Or.inl rfl | exact Or.inr rfl | exact rcb_01 _) dX6_enters_63 ?_
          exact j_vret F dX6_enters_66 ((rVe (by unfold M_enters; rw [if_neg h6, if_neg (show ¬ (v 1 (ix i 6) = 1 ∧ v 1 (ix i 9) = v 1 0) from (fun z => by first | exact h18 z.1 | exact h34 z.2)), if_pos h58])))
      · refine j_aload_n F.1 dX6_enters_37 rfl ?_
        refine j_getr F (k := 0) inX6 rfl (by decide) fl_X6_7 ⟨by decide, rfl⟩ rfl dX6_enters_38 ?_
        refine j_iconst F.1 (3) dX6_enters_41 (by decide) ?_
        refine j_dup2 F.1 dX6_enters_42 rfl rfl ?_
        refine j_iald F ⟨by decide, rfl⟩ rfl (by decide) (by decide) dX6_enters_43 ?_
        refine j_iconst F.1 (1) dX6_enters_44 (by decide) ?_
        refine j_iadd F.1 dX6_enters_45 ?_
        refine j_iast F ⟨by decide, rfl⟩ rfl (by decide) (by decide) dX6_enters_46 ?_
        rw [rcu_r]
        refine j_aload_n F.1 dX6_enters_47 rfl ?_
        refine j_iload_n F.1 dX6_enters_48 rfl ?_
        refine j_callVv F (k_uses hi) co_X6_uses ml_X6_91 im_X6_uses se_X6_uses in_X6 rc_X6_uses rfl (by decide) (by decide) ⟨by decide, rfl⟩ rfl rfl (Nat.le_of_ble_eq_true rfl) dX6_enters_49 ?_
        rw [rcr_rcr, rcr_s]
        exact j_vret F dX6_enters_52 ((rVe (by unfold M_enters; rw [if_neg h6, if_pos ⟨h18, h34⟩]; rfl)))
  · exact j_vret F dX6_enters_9 ((rVe (by unfold M_enters; rw [if_pos h6])))
set_option maxHeartbeats 4000000 in
set_option maxRecDepth 100000 in
theorem k_ends1 {Y : rcY} {la : Launch} {v : rcM} {i x dp : Nat} (hi : i < 10) (hx : v 1 (ix i 2) = nI x) (hx2 : x < 10) (hd : v 0 10 = nI (dp + 1)) : rcT shM 13 Y la 2 (yX6_ends, cX6_ends, 7, none) [.ref (Y.2.1 0), .int (nI i), .int 1, .int (-1)] (v) (rV (M_end v i dp 2000000000 1 0)) := by
  refine rcT.of (by decide +kernel) (Nat.le_of_ble_eq_true rfl) (fun X F hn => ?_)
  refine j_aload_n F.1 dX6_ends_0 rfl ?_
  refine j_aload_n F.1 dX6_ends_1 rfl ?_
  refine j_iload_n F.1 dX6_ends_2 rfl ?_
  refine j_iconst F.1 (2) dX6_ends_3 (by decide) ?_
  refine j_callVi F (k_of (by assumption) (by decide)) co_X6_of ml_X6_55 im_X6_of se_X6_of in_X6 rc_X6_of rfl (by decide) (by decide) ⟨by decide, rfl⟩ rfl rfl (Nat.le_of_ble_eq_true rfl) dX6_ends_4 ?_
  refine j_top hx ?_
  refine j_callVi F (k_answerOf (by assumption)) co_X6_answerOf ml_X6_117 im_X6_answerOf se_X6_answerOf in_X6 rc_X6_answerOf rfl (by decide) (by decide) ⟨by decide, rfl⟩ rfl rfl (Nat.le_of_ble_eq_true rfl) dX6_ends_7 ?_
  refine j_istore F.1 dX6_ends_10 (by rw [hn]; decide) ?_
  refine j_iload_n F.1 dX6_ends_12 rfl ?_
  refine j_iconst F.1 (1) dX6_ends_13 (by decide) ?_
  refine j_icmp_ne F.1 22 dX6_ends_14 (by decide) (fun h14 => False.elim (by revert h14; decide)) (fun _ => ?_)
  refine j_ldc F cn_X6_106 dX6_ends_17 ?_
  refine j_goto F.1 38 dX6_ends_19 (by decide) ?_
  refine j_istore F.1 dX6_ends_38 (by rw [hn]; decide) ?_
  refine j_aload_n F.1 dX6_ends_40 rfl ?_
  refine j_iload_n F.1 dX6_ends_41 rfl ?_
  refine j_bipush F.1 (6) dX6_ends_42 (by decide) ?_
  refine j_callVi F (k_of (by assumption) (by decide)) co_X6_of ml_X6_55 im_X6_of se_X6_of in_X6 rc_X6_of rfl (by decide) (by decide) ⟨by decide, rfl⟩ rfl rfl (Nat.le_of_ble_eq_true rfl) dX6_ends_44 ?_
  refine j_iconst F.1 (1) dX6_ends_47 (by decide) ?_
  refine j_icmp_ne F.1 67 dX6_ends_48 (by decide) (fun h48 => ?_) (fun h48 => ?_)
  · have hs : ¬ (v 1 (ix i 6) = 1 ∧ v 1 (ix i 7) = 2000000000) := fun z => h48 z.1
    refine j_iconst F.1 (0) dX6_ends_67 (by decide) ?_
    refine j_istore F.1 dX6_ends_68 (by rw [hn]; decide) ?_
    refine j_aload_n F.1 dX6_ends_70 rfl ?_
    refine j_getr F (k := 0) inX6 rfl (by decide) fl_X6_7 ⟨by decide, rfl⟩ rfl dX6_ends_71 ?_
    refine j_bipush F.1 (6) dX6_ends_74 (by decide) ?_
    refine j_dup2 F.1 dX6_ends_76 rfl rfl ?_
    refine j_iald F ⟨by decide, rfl⟩ rfl (by decide) (by decide) dX6_ends_77 ?_
    refine j_iload F.1 dX6_ends_78 rfl ?_
    refine j_if_eq F.1 87 dX6_ends_80 (by decide) (fun _ => ?_) (fun h80 => False.elim (by revert h80; decide))
    refine j_iconst F.1 (0) dX6_ends_87 (by decide) ?_
    refine j_iadd F.1 dX6_ends_88 ?_
    refine j_iast F ⟨by decide, rfl⟩ rfl (by decide) (by decide) dX6_ends_89 ?_
    rw [rcu_r]
    refine j_aload_n F.1 dX6_ends_90 rfl ?_
    refine j_iload_n F.1 dX6_ends_91 rfl ?_
    refine j_bipush F.1 (8) dX6_ends_92 (by decide) ?_
    refine j_iload F.1 dX6_ends_94 rfl ?_
    refine j_if_eq F.1 109 dX6_ends_96 (by decide) (fun _ => ?_) (fun h96 => False.elim (by revert h96; decide))
    refine j_aload_n F.1 dX6_ends_109 rfl ?_
    refine j_getr F (k := 0) inX6 rfl (by decide) fl_X6_7 ⟨by decide, rfl⟩ rfl dX6_ends_110 ?_
    refine j_iconst F.1 (0) dX6_ends_113 (by decide) ?_
    refine j_iald F ⟨by decide, rfl⟩ rfl (by decide) (by decide) dX6_ends_114 ?_
    refine j_callVv F (k_puts (by assumption) (by decide)) co_X6_puts ml_X6_63 im_X6_puts se_X6_puts in_X6 rc_X6_puts rfl (by decide) (by decide) ⟨by decide, rfl⟩ rfl rfl (Nat.le_of_ble_eq_true rfl) dX6_ends_115 ?_
    rw [rcr_rcr, rcr_s]
    refine j_aload_n F.1 dX6_ends_118 rfl ?_
    refine j_iload_n F.1 dX6_ends_119 rfl ?_
    refine j_bipush F.1 (6) dX6_ends_120 (by decide) ?_
    refine j_iconst F.1 (1) dX6_ends_122 (by decide) ?_
    refine j_callVv F (k_puts (by assumption) (by decide)) co_X6_puts ml_X6_63 im_X6_puts se_X6_puts in_X6 rc_X6_puts rfl (by decide) (by decide) ⟨by decide, rfl⟩ rfl rfl (Nat.le_of_ble_eq_true rfl) dX6_ends_123 ?_
    rw [rcr_rcr, rcr_s]
    refine j_aload_n F.1 dX6_ends_126 rfl ?_
    refine j_iload_n F.1 dX6_ends_127 rfl ?_
    refine j_bipush F.1 (7) dX6_ends_128 (by decide) ?_
    refine j_iload F.1 dX6_ends_130 rfl ?_
    refine j_callVv F (k_puts (by assumption) (by decide)) co_X6_puts ml_X6_63 im_X6_puts se_X6_puts in_X6 rc_X6_puts rfl (by decide) (by decide) ⟨by decide, rfl⟩ rfl rfl (Nat.le_of_ble_eq_true rfl) dX6_ends_132 ?_
    rw [rcr_rcr, rcr_s]
    refine j_aload_n F.1 dX6_ends_135 rfl ?_
    refine j_iload_n F.1 dX6_ends_136 rfl ?_
    refine j_bipush F.1 (9) dX6_ends_137 (by decide) ?_
    refine j_aload_n F.1 dX6_ends_139 rfl ?_
    refine j_getr F (k := 0) inX6 rfl (by decide) fl_X6_7 ⟨by decide, rfl⟩ rfl dX6_ends_140 ?_
    refine j_iconst F.1 (0) dX6_ends_143 (by decide) ?_
    refine j_iald F ⟨by decide, rfl⟩ rfl (by decide) (by decide) dX6_ends_144 ?_
    refine j_callVv F (k_puts (by assumption) (by decide)) co_X6_puts ml_X6_63 im_X6_puts se_X6_puts in_X6 rc_X6_puts rfl (by decide) (by decide) ⟨by decide, rfl⟩ rfl rfl (Nat.le_of_ble_eq_true rfl) dX6_ends_145 ?_
    rw [rcr_rcr, rcr_s]
    refine j_aload_n F.1 dX6_ends_148 rfl ?_
    refine j_iload_n F.1 dX6_ends_149 rfl ?_
    refine j_bipush F.1 (10) dX6_ends_150 (by decide) ?_
    refine j_iload_n F.1 dX6_ends_152 rfl ?_
    refine j_callVv F (k_puts (by assumption) (by decide)) co_X6_puts ml_X6_63 im_X6_puts se_X6_puts in_X6 rc_X6_puts rfl (by decide) (by decide) ⟨by decide, rfl⟩ rfl rfl (Nat.le_of_ble_eq_true rfl) dX6_ends_153 ?_
    rw [rcr_rcr, rcr_s]
    refine j_aload_n F.1 dX6_ends_156 rfl ?_
    refine j_iload_n F.1 dX6_ends_157 rfl ?_
    refine j_bipush F.1 (11) dX6_ends_158 (by decide) ?_
    refine j_aload_n F.1 dX6_ends_160 rfl ?_
    refine j_iload_n F.1 dX6_ends_161 rfl ?_
    refine j_iconst F.1 (2) dX6_ends_162 (by decide) ?_
    refine j_callVi F (k_of (by assumption) (by decide)) co_X6_of ml_X6_55 im_X6_of se_X6_of in_X6 rc_X6_of rfl (by decide) (by decide) ⟨by decide, rfl⟩ rfl rfl (Nat.le_of_ble_eq_true rfl) dX6_ends_163 ?_
    refine j_callVv F (k_puts (by assumption) (by decide)) co_X6_puts ml_X6_63 im_X6_puts se_X6_puts in_X6 rc_X6_puts rfl (by decide) (by decide) ⟨by decide, rfl⟩ rfl rfl (Nat.le_of_ble_eq_true rfl) dX6_ends_166 ?_
    rw [rcr_rcr, rcr_s]
    refine j_aload_n F.1 dX6_ends_169 rfl ?_
    refine j_iload_n F.1 dX6_ends_170 rfl ?_
    refine j_bipush F.1 (12) dX6_ends_171 (by decide) ?_
    refine j_iload_n F.1 dX6_ends_173 rfl ?_
    refine j_iconst F.1 (1) dX6_ends_174 (by decide) ?_
    refine j_icmp_ne F.1 182 dX6_ends_175 (by decide) (fun h175 => False.elim (by revert h175; decide)) (fun _ => ?_)
    refine j_iconst F.1 (0) dX6_ends_178 (by decide) ?_
    refine j_goto F.1 183 dX6_ends_179 (by decide) ?_
    refine j_callVv F (k_puts (by assumption) (by decide)) co_X6_puts ml_X6_63 im_X6_puts se_X6_puts in_X6 rc_X6_puts rfl (by decide) (by decide) ⟨by decide, rfl⟩ rfl rfl (Nat.le_of_ble_eq_true rfl) dX6_ends_183 ?_
    rw [rcr_rcr, rcr_s]
    refine j_aload_n F.1 dX6_ends_186 rfl ?_
    refine j_getr F (k := 0) inX6 rfl (by decide) fl_X6_7 ⟨by decide, rfl⟩ rfl dX6_ends_187 ?_
    refine j_iconst F.1 (1) dX6_ends_190 (by decide) ?_
    refine j_dup2 F.1 dX6_ends_191 rfl rfl ?_
    refine j_iald F ⟨by decide, rfl⟩ rfl (by decide) (by decide) dX6_ends_192 ?_
    refine j_iconst F.1 (1) dX6_ends_193 (by decide) ?_
    refine j_iadd F.1 dX6_ends_194 ?_
    refine j_iast F ⟨by decide, rfl⟩ rfl (by decide) (by decide) dX6_ends_195 ?_
    refine j_aload_n F.1 dX6_ends_196 rfl ?_
    rw [rcu_r, rcr_rcr, rcr_s]
    refine j_iload_n F.1 dX6_ends_197 rfl ?_
    refine j_callVv F (k_uses hi) co_X6_uses ml_X6_91 im_X6_uses se_X6_uses in_X6 rc_X6_uses rfl (by decide) (by decide) ⟨by decide, rfl⟩ rfl rfl (Nat.le_of_ble_eq_true rfl) dX6_ends_198 ?_
    rw [rcr_rcr, rcr_s]
    refine j_aload_n F.1 dX6_ends_201 rfl ?_
    refine j_dup F.1 dX6_ends_202 rfl ?_
    refine j_geti F (k := 10) inX6 rfl (by decide) fl_X6_88 ⟨by decide, rfl⟩ rfl dX6_ends_203 ?_
    refine j_iconst F.1 (1) dX6_ends_206 (by decide) ?_
    refine j_isub F.1 dX6_ends_207 ?_
    refine j_top (y := nI dp) (by rw [rcr_n (by decide), hd, nI_pred]) ?_
    refine j_puti F (k := 10) inX6 tyX6_ok nmX6 rfl (by decide) fl_X6_88 rfl rfl ⟨by decide, rfl⟩ rfl dX6_ends_208 ?_
    exact j_vret F dX6_ends_211 ((rVe (by unfold M_end A_end; (first | rw [if_pos hs] | rw [if_neg hs]); rfl)))
  · refine j_aload_n F.1 dX6_ends_51 rfl ?_
    refine j_iload_n F.1 dX6_ends_52 rfl ?_
    refine j_bipush F.1 (7) dX6_ends_53 (by decide) ?_
    refine j_callVi F (k_of (by assumption) (by decide)) co_X6_of ml_X6_55 im_X6_of se_X6_of in_X6 rc_X6_of rfl (by decide) (by decide) ⟨by decide, rfl⟩ rfl rfl (Nat.le_of_ble_eq_true rfl) dX6_ends_55 ?_
    refine j_iload F.1 dX6_ends_58 rfl ?_
    refine j_icmp_ne F.1 67 dX6_ends_60 (by decide) (fun h60 => ?_) (fun h60 => ?_)
    · have hs : ¬ (v 1 (ix i 6) = 1 ∧ v 1 (ix i 7) = 2000000000) := fun z => h60 z.2
      refine j_iconst F.1 (0) dX6_ends_67 (by decide) ?_
      refine j_istore F.1 dX6_ends_68 (by rw [hn]; decide) ?_
      refine j_aload_n F.1 dX6_ends_70 rfl ?_
      refine j_getr F (k := 0) inX6 rfl (by decide) fl_X6_7 ⟨by decide, rfl⟩ rfl dX6_ends_71 ?_
      refine j_bipush F.1 (6) dX6_ends_74 (by decide) ?_
      refine j_dup2 F.1 dX6_ends_76 rfl rfl ?_
      refine j_iald F ⟨by decide, rfl⟩ rfl (by decide) (by decide) dX6_ends_77 ?_
      refine j_iload F.1 dX6_ends_78 rfl ?_
      refine j_if_eq F.1 87 dX6_ends_80 (by decide) (fun _ => ?_) (fun h80 => False.elim (by revert h80; decide))
      refine j_iconst F.1 (0) dX6_ends_87 (by decide) ?_
      refine j_iadd F.1 dX6_ends_88 ?_
      refine j_iast F ⟨by decide, rfl⟩ rfl (by decide) (by decide) dX6_ends_89 ?_
      rw [rcu_r]
      refine j_aload_n F.1 dX6_ends_90 rfl ?_
      refine j_iload_n F.1 dX6_ends_91 rfl ?_
      refine j_bipush F.1 (8) dX6_ends_92 (by decide) ?_
      refine j_iload F.1 dX6_ends_94 rfl ?_
      refine j_if_eq F.1 109 dX6_ends_96 (by decide) (fun _ => ?_) (fun h96 => False.elim (by revert h96; decide))
      refine j_aload_n F.1 dX6_ends_109 rfl ?_
      refine j_getr F (k := 0) inX6 rfl (by decide) fl_X6_7 ⟨by decide, rfl⟩ rfl dX6_ends_110 ?_
      refine j_iconst F.1 (0) dX6_ends_113 (by decide) ?_
      refine j_iald F ⟨by decide, rfl⟩ rfl (by decide) (by decide) dX6_ends_114 ?_
      refine j_callVv F (k_puts (by assumption) (by decide)) co_X6_puts ml_X6_63 im_X6_puts se_X6_puts in_X6 rc_X6_puts rfl (by decide) (by decide) ⟨by decide, rfl⟩ rfl rfl (Nat.le_of_ble_eq_true rfl) dX6_ends_115 ?_
      rw [rcr_rcr, rcr_s]
      refine j_aload_n F.1 dX6_ends_118 rfl ?_
      refine j_iload_n F.1 dX6_ends_119 rfl ?_
      refine j_bipush F.1 (6) dX6_ends_120 (by decide) ?_
      refine j_iconst F.1 (1) dX6_ends_122 (by decide) ?_
      refine j_callVv F (k_puts (by assumption) (by decide)) co_X6_puts ml_X6_63 im_X6_puts se_X6_puts in_X6 rc_X6_puts rfl (by decide) (by decide) ⟨by decide, rfl⟩ rfl rfl (Nat.le_of_ble_eq_true rfl) dX6_ends_123 ?_
      rw [rcr_rcr, rcr_s]
      refine j_aload_n F.1 dX6_ends_126 rfl ?_
      refine j_iload_n F.1 dX6_ends_127 rfl ?_
      refine j_bipush F.1 (7) dX6_ends_128 (by decide) ?_
      refine j_iload F.1 dX6_ends_130 rfl ?_
      refine j_callVv F (k_puts (by assumption) (by decide)) co_X6_puts ml_X6_63 im_X6_puts se_X6_puts in_X6 rc_X6_puts rfl (by decide) (by decide) ⟨by decide, rfl⟩ rfl rfl (Nat.le_of_ble_eq_true rfl) dX6_ends_132 ?_
      rw [rcr_rcr, rcr_s]
      refine j_aload_n F.1 dX6_ends_135 rfl ?_
      refine j_iload_n F.1 dX6_ends_136 rfl ?_
      refine j_bipush F.1 (9) dX6_ends_137 (by decide) ?_
      refine j_aload_n F.1 dX6_ends_139 rfl ?_
      refine j_getr F (k := 0) inX6 rfl (by decide) fl_X6_7 ⟨by decide, rfl⟩ rfl dX6_ends_140 ?_
      refine j_iconst F.1 (0) dX6_ends_143 (by decide) ?_
      refine j_iald F ⟨by decide, rfl⟩ rfl (by decide) (by decide) dX6_ends_144 ?_
      refine j_callVv F (k_puts (by assumption) (by decide)) co_X6_puts ml_X6_63 im_X6_puts se_X6_puts in_X6 rc_X6_puts rfl (by decide) (by decide) ⟨by decide, rfl⟩ rfl rfl (Nat.le_of_ble_eq_true rfl) dX6_ends_145 ?_
      rw [rcr_rcr, rcr_s]
      refine j_aload_n F.1 dX6_ends_148 rfl ?_
      refine j_iload_n F.1 dX6_ends_149 rfl ?_
      refine j_bipush F.1 (10) dX6_ends_150 (by decide) ?_
      refine j_iload_n F.1 dX6_ends_152 rfl ?_
      refine j_callVv F (k_puts (by assumption) (by decide)) co_X6_puts ml_X6_63 im_X6_puts se_X6_puts in_X6 rc_X6_puts rfl (by decide) (by decide) ⟨by decide, rfl⟩ rfl rfl (Nat.le_of_ble_eq_true rfl) dX6_ends_153 ?_
      rw [rcr_rcr, rcr_s]
      refine j_aload_n F.1 dX6_ends_156 rfl ?_
      refine j_iload_n F.1 dX6_ends_157 rfl ?_
      refine j_bipush F.1 (11) dX6_ends_158 (by decide) ?_
      refine j_aload_n F.1 dX6_ends_160 rfl ?_
      refine j_iload_n F.1 dX6_ends_161 rfl ?_
      refine j_iconst F.1 (2) dX6_ends_162 (by decide) ?_
      refine j_callVi F (k_of (by assumption) (by decide)) co_X6_of ml_X6_55 im_X6_of se_X6_of in_X6 rc_X6_of rfl (by decide) (by decide) ⟨by decide, rfl⟩ rfl rfl (Nat.le_of_ble_eq_true rfl) dX6_ends_163 ?_
      refine j_callVv F (k_puts (by assumption) (by decide)) co_X6_puts ml_X6_63 im_X6_puts se_X6_puts in_X6 rc_X6_puts rfl (by decide) (by decide) ⟨by decide, rfl⟩ rfl rfl (Nat.le_of_ble_eq_true rfl) dX6_ends_166 ?_
      rw [rcr_rcr, rcr_s]
      refine j_aload_n F.1 dX6_ends_169 rfl ?_
      refine j_iload_n F.1 dX6_ends_170 rfl ?_
      refine j_bipush F.1 (12) dX6_ends_171 (by decide) ?_
      refine j_iload_n F.1 dX6_ends_173 rfl ?_
      refine j_iconst F.1 (1) dX6_ends_174 (by decide) ?_
      refine j_icmp_ne F.1 182 dX6_ends_175 (by decide) (fun h175 => False.elim (by revert h175; decide)) (fun _ => ?_)
      refine j_iconst F.1 (0) dX6_ends_178 (by decide) ?_
      refine j_goto F.1 183 dX6_ends_179 (by decide) ?_
      refine j_callVv F (k_puts (by assumption) (by decide)) co_X6_puts ml_X6_63 im_X6_puts se_X6_puts in_X6 rc_X6_puts rfl (by decide) (by decide) ⟨by decide, rfl⟩ rfl rfl (Nat.le_of_ble_eq_true rfl) dX6_ends_183 ?_
      rw [rcr_rcr, rcr_s]
      refine j_aload_n F.1 dX6_ends_186 rfl ?_
      refine j_getr F (k := 0) inX6 rfl (by decide) fl_X6_7 ⟨by decide, rfl⟩ rfl dX6_ends_187 ?_
      refine j_iconst F.1 (1) dX6_ends_190 (by decide) ?_
      refine j_dup2 F.1 dX6_ends_191 rfl rfl ?_
      refine j_iald F ⟨by decide, rfl⟩ rfl (by decide) (by decide) dX6_ends_192 ?_
      refine j_iconst F.1 (1) dX6_ends_193 (by decide) ?_
      refine j_iadd F.1 dX6_ends_194 ?_
      refine j_iast F ⟨by decide, rfl⟩ rfl (by decide) (by decide) dX6_ends_195 ?_
      refine j_aload_n F.1 dX6_ends_196 rfl ?_
      rw [rcu_r, rcr_rcr, rcr_s]
      refine j_iload_n F.1 dX6_ends_197 rfl ?_
      refine j_callVv F (k_uses hi) co_X6_uses ml_X6_91 im_X6_uses se_X6_uses in_X6 rc_X6_uses rfl (by decide) (by decide) ⟨by decide, rfl⟩ rfl rfl (Nat.le_of_ble_eq_true rfl) dX6_ends_198 ?_
      rw [rcr_rcr, rcr_s]
      refine j_aload_n F.1 dX6_ends_201 rfl ?_
      refine j_dup F.1 dX6_ends_202 rfl ?_
      refine j_geti F (k := 10) inX6 rfl (by decide) fl_X6_88 ⟨by decide, rfl⟩ rfl dX6_ends_203 ?_
      refine j_iconst F.1 (1) dX6_ends_206 (by decide) ?_
      refine j_isub F.1 dX6_ends_207 ?_
      refine j_top (y := nI dp) (by rw [rcr_n (by decide), hd, nI_pred]) ?_
      refine j_puti F (k := 10) inX6 tyX6_ok nmX6 rfl (by decide) fl_X6_88 rfl rfl ⟨by decide, rfl⟩ rfl dX6_ends_208 ?_
      exact j_vret F dX6_ends_211 ((rVe (by unfold M_end A_end; (first | rw [if_pos hs] | rw [if_neg hs]); rfl)))
    · have hs : v 1 (ix i 6) = 1 ∧ v 1 (ix i 7) = 2000000000 := And.intro h48 h60
      refine j_iconst F.1 (1) dX6_ends_63 (by decide) ?_
      refine j_goto F.1 68 dX6_ends_64 (by decide) ?_
      refine j_istore F.1 dX6_ends_68 (by rw [hn]; decide) ?_
      refine j_aload_n F.1 dX6_ends_70 rfl ?_
      refine j_getr F (k := 0) inX6 rfl (by decide) fl_X6_7 ⟨by decide, rfl⟩ rfl dX6_ends_71 ?_
      refine j_bipush F.1 (6) dX6_ends_74 (by decide) ?_
      refine j_dup2 F.1 dX6_ends_76 rfl rfl ?_
      refine j_iald F ⟨by decide, rfl⟩ rfl (by decide) (by decide) dX6_ends_77 ?_
      refine j_iload F.1 dX6_ends_78 rfl ?_
      refine j_if_eq F.1 87 dX6_ends_80 (by decide) (fun h80 => False.elim (by revert h80; decide)) (fun _ => ?_)
      refine j_iconst F.1 (1) dX6_ends_83 (by decide) ?_
      refine j_goto F.1 88 dX6_ends_84 (by decide) ?_
      refine j_iadd F.1 dX6_ends_88 ?_
      refine j_iast F ⟨by decide, rfl⟩ rfl (by decide) (by decide) dX6_ends_89 ?_
      rw [rcu_r]
      refine j_aload_n F.1 dX6_ends_90 rfl ?_
      refine j_iload_n F.1 dX6_ends_91 rfl ?_
      refine j_bipush F.1 (8) dX6_ends_92 (by decide) ?_
      refine j_iload F.1 dX6_ends_94 rfl ?_
      refine j_if_eq F.1 109 dX6_ends_96 (by decide) (fun h96 => False.elim (by revert h96; decide)) (fun _ => ?_)
      refine j_aload_n F.1 dX6_ends_99 rfl ?_
      refine j_iload_n F.1 dX6_ends_100 rfl ?_
      refine j_bipush F.1 (8) dX6_ends_101 (by decide) ?_
      refine j_callVi F (k_of (by assumption) (by decide)) co_X6_of ml_X6_55 im_X6_of se_X6_of in_X6 rc_X6_of rfl (by decide) (by decide) ⟨by decide, rfl⟩ rfl rfl (Nat.le_of_ble_eq_true rfl) dX6_ends_103 ?_
      refine j_top (y := v 1 (ix i 8)) (by first | rw [rcr_s, pk_un (show ix i 8 ≠ 6 by unfold ix; omega)] | rw [rcu_row, pk_un (show ix i 8 ≠ 6 by unfold ix; omega)]) ?_
      refine j_goto F.1 115 dX6_ends_106 (by decide) ?_
      refine j_callVv F (k_puts (by assumption) (by decide)) co_X6_puts ml_X6_63 im_X6_puts se_X6_puts in_X6 rc_X6_puts rfl (by decide) (by decide) ⟨by decide, rfl⟩ rfl rfl (Nat.le_of_ble_eq_true rfl) dX6_ends_115 ?_
      rw [rcr_rcr, rcr_s]
      refine j_aload_n F.1 dX6_ends_118 rfl ?_
      refine j_iload_n F.1 dX6_ends_119 rfl ?_
      refine j_bipush F.1 (6) dX6_ends_120 (by decide) ?_
      refine j_iconst F.1 (1) dX6_ends_122 (by decide) ?_
      refine j_callVv F (k_puts (by assumption) (by decide)) co_X6_puts ml_X6_63 im_X6_puts se_X6_puts in_X6 rc_X6_puts rfl (by decide) (by decide) ⟨by decide, rfl⟩ rfl rfl (Nat.le_of_ble_eq_true rfl) dX6_ends_123 ?_
      rw [rcr_rcr, rcr_s]
      refine j_aload_n F.1 dX6_ends_126 rfl ?_
      refine j_iload_n F.1 dX6_ends_127 rfl ?_
      refine j_bipush F.1 (7) dX6_ends_128 (by decide) ?_
      refine j_iload F.1 dX6_ends_130 rfl ?_
      refine j_callVv F (k_puts (by assumption) (by decide)) co_X6_puts ml_X6_63 im_X6_puts se_X6_puts in_X6 rc_X6_puts rfl (by decide) (by decide) ⟨by decide, rfl⟩ rfl rfl (Nat.le_of_ble_eq_true rfl) dX6_ends_132 ?_
      rw [rcr_rcr, rcr_s]
      refine j_aload_n F.1 dX6_ends_135 rfl ?_
      refine j_iload_n F.1 dX6_ends_136 rfl ?_
      refine j_bipush F.1 (9) dX6_ends_137 (by decide) ?_
      refine j_aload_n F.1 dX6_ends_139 rfl ?_
      refine j_getr F (k := 0) inX6 rfl (by decide) fl_X6_7 ⟨by decide, rfl⟩ rfl dX6_ends_140 ?_
      refine j_iconst F.1 (0) dX6_ends_143 (by decide) ?_
      refine j_iald F ⟨by decide, rfl⟩ rfl (by decide) (by decide) dX6_ends_144 ?_
      refine j_callVv F (k_puts (by assumption) (by decide)) co_X6_puts ml_X6_63 im_X6_puts se_X6_puts in_X6 rc_X6_puts rfl (by decide) (by decide) ⟨by decide, rfl⟩ rfl rfl (Nat.le_of_ble_eq_true rfl) dX6_ends_145 ?_
      rw [rcr_rcr, rcr_s]
      refine j_aload_n F.1 dX6_ends_148 rfl ?_
      refine j_iload_n F.1 dX6_ends_149 rfl ?_
      refine j_bipush F.1 (10) dX6_ends_150 (by decide) ?_
      refine j_iload_n F.1 dX6_ends_152 rfl ?_
      refine j_callVv F (k_puts (by assumption) (by decide)) co_X6_puts ml_X6_63 im_X6_puts se_X6_puts in_X6 rc_X6_puts rfl (by decide) (by decide) ⟨by decide, rfl⟩ rfl rfl (Nat.le_of_ble_eq_true rfl) dX6_ends_153 ?_
      rw [rcr_rcr, rcr_s]
      refine j_aload_n F.1 dX6_ends_156 rfl ?_
      refine j_iload_n F.1 dX6_ends_157 rfl ?_
      refine j_bipush F.1 (11) dX6_ends_158 (by decide) ?_
      refine j_aload_n F.1 dX6_ends_160 rfl ?_
      refine j_iload_n F.1 dX6_ends_161 rfl ?_
      refine j_iconst F.1 (2) dX6_ends_162 (by decide) ?_
      refine j_callVi F (k_of (by assumption) (by decide)) co_X6_of ml_X6_55 im_X6_of se_X6_of in_X6 rc_X6_of rfl (by decide) (by decide) ⟨by decide, rfl⟩ rfl rfl (Nat.le_of_ble_eq_true rfl) dX6_ends_163 ?_
      refine j_callVv F (k_puts (by assumption) (by decide)) co_X6_puts ml_X6_63 im_X6_puts se_X6_puts in_X6 rc_X6_puts rfl (by decide) (by decide) ⟨by decide, rfl⟩ rfl rfl (Nat.le_of_ble_eq_true rfl) dX6_ends_166 ?_
      rw [rcr_rcr, rcr_s]
      refine j_aload_n F.1 dX6_ends_169 rfl ?_
      refine j_iload_n F.1 dX6_ends_170 rfl ?_
      refine j_bipush F.1 (12) dX6_ends_171 (by decide) ?_
      refine j_iload_n F.1 dX6_ends_173 rfl ?_
      refine j_iconst F.1 (1) dX6_ends_174 (by decide) ?_
      refine j_icmp_ne F.1 182 dX6_ends_175 (by decide) (fun h175 => False.elim (by revert h175; decide)) (fun _ => ?_)
      refine j_iconst F.1 (0) dX6_ends_178 (by decide) ?_
      refine j_goto F.1 183 dX6_ends_179 (by decide) ?_
      refine j_callVv F (k_puts (by assumption) (by decide)) co_X6_puts ml_X6_63 im_X6_puts se_X6_puts in_X6 rc_X6_puts rfl (by decide) (by decide) ⟨by decide, rfl⟩ rfl rfl (Nat.le_of_ble_eq_true rfl) dX6_ends_183 ?_
      rw [rcr_rcr, rcr_s]
      refine j_aload_n F.1 dX6_ends_186 rfl ?_
      refine j_getr F (k := 0) inX6 rfl (by decide) fl_X6_7 ⟨by decide, rfl⟩ rfl dX6_ends_187 ?_
      refine j_iconst F.1 (1) dX6_ends_190 (by decide) ?_
      refine j_dup2 F.1 dX6_ends_191 rfl rfl ?_
      refine j_iald F ⟨by decide, rfl⟩ rfl (by decide) (by decide) dX6_ends_192 ?_
      refine j_iconst F.1 (1) dX6_ends_193 (by decide) ?_
      refine j_iadd F.1 dX6_ends_194 ?_
      refine j_iast F ⟨by decide, rfl⟩ rfl (by decide) (by decide) dX6_ends_195 ?_
      refine j_aload_n F.1 dX6_ends_196 rfl ?_
      rw [rcu_r, rcr_rcr, rcr_s]
      refine j_iload_n F.1 dX6_ends_197 rfl ?_
      refine j_callVv F (k_uses hi) co_X6_uses ml_X6_91 im_X6_uses se_X6_uses in_X6 rc_X6_uses rfl (by decide) (by decide) ⟨by decide, rfl⟩ rfl rfl (Nat.le_of_ble_eq_true rfl) dX6_ends_198 ?_
      rw [rcr_rcr, rcr_s]
      refine j_aload_n F.1 dX6_ends_201 rfl ?_
      refine j_dup F.1 dX6_ends_202 rfl ?_
      refine j_geti F (k := 10) inX6 rfl (by decide) fl_X6_88 ⟨by decide, rfl⟩ rfl dX6_ends_203 ?_
      refine j_iconst F.1 (1) dX6_ends_206 (by decide) ?_
      refine j_isub F.1 dX6_ends_207 ?_
      refine j_top (y := nI dp) (by rw [rcr_n (by decide), hd, nI_pred]) ?_
      refine j_puti F (k := 10) inX6 tyX6_ok nmX6 rfl (by decide) fl_X6_88 rfl rfl ⟨by decide, rfl⟩ rfl dX6_ends_208 ?_
      exact j_vret F dX6_ends_211 ((rVe (by unfold M_end A_end; (first | rw [if_pos hs] | rw [if_neg hs]); rfl)))
set_option maxHeartbeats 4000000 in
set_option maxRecDepth 100000 in
theorem k_ends2 {Y : rcY} {la : Launch} {v : rcM} {i x dp : Nat} {y : Nat} (hy : y < 10) (hi : i < 10) (hx : v 1 (ix i 2) = nI x) (hx2 : x < 10) (hd : v 0 10 = nI (dp + 1)) : rcT shM 13 Y la 2 (yX6_ends, cX6_ends, 7, none) [.ref (Y.2.1 0), .int (nI i), .int 2, .int (nI y)] (v) (rV (M_end v i dp (A_made (v 1 (ix i 0)) (A_ans (v 1) x) (A_ans (v 1) y)) 2 (nI y))) := by
  refine rcT.of (by decide +kernel) (Nat.le_of_ble_eq_true rfl) (fun X F hn => ?_)
  refine j_aload_n F.1 dX6_ends_0 rfl ?_
  refine j_aload_n F.1 dX6_ends_1 rfl ?_
  refine j_iload_n F.1 dX6_ends_2 rfl ?_
  refine j_iconst F.1 (2) dX6_ends_3 (by decide) ?_
  refine j_callVi F (k_of (by assumption) (by decide)) co_X6_of ml_X6_55 im_X6_of se_X6_of in_X6 rc_X6_of rfl (by decide) (by decide) ⟨by decide, rfl⟩ rfl rfl (Nat.le_of_ble_eq_true rfl) dX6_ends_4 ?_
  refine j_top hx ?_
  refine j_callVi F (k_answerOf (by assumption)) co_X6_answerOf ml_X6_117 im_X6_answerOf se_X6_answerOf in_X6 rc_X6_answerOf rfl (by decide) (by decide) ⟨by decide, rfl⟩ rfl rfl (Nat.le_of_ble_eq_true rfl) dX6_ends_7 ?_
  refine j_istore F.1 dX6_ends_10 (by rw [hn]; decide) ?_
  refine j_iload_n F.1 dX6_ends_12 rfl ?_
  refine j_iconst F.1 (1) dX6_ends_13 (by decide) ?_
  refine j_icmp_ne F.1 22 dX6_ends_14 (by decide) (fun _ => ?_) (fun h14 => False.elim (by revert h14; decide))
  refine j_aload_n F.1 dX6_ends_22 rfl ?_
  refine j_iload_n F.1 dX6_ends_23 rfl ?_
  refine j_iconst F.1 (0) dX6_ends_24 (by decide) ?_
  refine j_callVi F (k_of (by assumption) (by decide)) co_X6_of ml_X6_55 im_X6_of se_X6_of in_X6 rc_X6_of rfl (by decide) (by decide) ⟨by decide, rfl⟩ rfl rfl (Nat.le_of_ble_eq_true rfl) dX6_ends_25 ?_
  refine j_iload F.1 dX6_ends_28 rfl ?_
  refine j_aload_n F.1 dX6_ends_30 rfl ?_
  refine j_iload_n F.1 dX6_ends_31 rfl ?_
  refine j_callVi F (k_answerOf (by assumption)) co_X6_answerOf ml_X6_117 im_X6_answerOf se_X6_answerOf in_X6 rc_X6_answerOf rfl (by decide) (by decide) ⟨by decide, rfl⟩ rfl rfl (Nat.le_of_ble_eq_true rfl) dX6_ends_32 ?_
  refine j_callSi F (k_made) co_X6_made ml_X6_120 st_X6_made in_X6 rc_X6_made rfl (by decide) (by decide) rfl (Nat.le_of_ble_eq_true rfl) dX6_ends_35 ?_
  refine j_istore F.1 dX6_ends_38 (by rw [hn]; decide) ?_
  refine j_aload_n F.1 dX6_ends_40 rfl ?_
  refine j_iload_n F.1 dX6_ends_41 rfl ?_
  refine j_bipush F.1 (6) dX6_ends_42 (by decide) ?_
  refine j_callVi F (k_of (by assumption) (by decide)) co_X6_of ml_X6_55 im_X6_of se_X6_of in_X6 rc_X6_of rfl (by decide) (by decide) ⟨by decide, rfl⟩ rfl rfl (Nat.le_of_ble_eq_true rfl) dX6_ends_44 ?_
  refine j_iconst F.1 (1) dX6_ends_47 (by decide) ?_
  refine j_icmp_ne F.1 67 dX6_ends_48 (by decide) (fun h48 => ?_) (fun h48 => ?_)
  · have hs : ¬ (v 1 (ix i 6) = 1 ∧ v 1 (ix i 7) = (A_made (v 1 (ix i 0)) (A_ans (v 1) x) (A_ans (v 1) y))) := fun z => h48 z.1
    refine j_iconst F.1 (0) dX6_ends_67 (by decide) ?_
    refine j_istore F.1 dX6_ends_68 (by rw [hn]; decide) ?_
    refine j_aload_n F.1 dX6_ends_70 rfl ?_
    refine j_getr F (k := 0) inX6 rfl (by decide) fl_X6_7 ⟨by decide, rfl⟩ rfl dX6_ends_71 ?_
    refine j_bipush F.1 (6) dX6_ends_74 (by decide) ?_
    refine j_dup2 F.1 dX6_ends_76 rfl rfl ?_
    refine j_iald F ⟨by decide, rfl⟩ rfl (by decide) (by decide) dX6_ends_77 ?_
    refine j_iload F.1 dX6_ends_78 rfl ?_
    refine j_if_eq F.1 87 dX6_ends_80 (by decide) (fun _ => ?_) (fun h80 => False.elim (by revert h80; decide))
    refine j_iconst F.1 (0) dX6_ends_87 (by decide) ?_
    refine j_iadd F.1 dX6_ends_88 ?_
    refine j_iast F ⟨by decide, rfl⟩ rfl (by decide) (by decide) dX6_ends_89 ?_
    rw [rcu_r]
    refine j_aload_n F.1 dX6_ends_90 rfl ?_
    refine j_iload_n F.1 dX6_ends_91 rfl ?_
    refine j_bipush F.1 (8) dX6_ends_92 (by decide) ?_
    refine j_iload F.1 dX6_ends_94 rfl ?_
    refine j_if_eq F.1 109 dX6_ends_96 (by decide) (fun _ => ?_) (fun h96 => False.elim (by revert h96; decide))
    refine j_aload_n F.1 dX6_ends_109 rfl ?_
    refine j_getr F (k := 0) inX6 rfl (by decide) fl_X6_7 ⟨by decide, rfl⟩ rfl dX6_ends_110 ?_
    refine j_iconst F.1 (0) dX6_ends_113 (by decide) ?_
    refine j_iald F ⟨by decide, rfl⟩ rfl (by decide) (by decide) dX6_ends_114 ?_
    refine j_callVv F (k_puts (by assumption) (by decide)) co_X6_puts ml_X6_63 im_X6_puts se_X6_puts in_X6 rc_X6_puts rfl (by decide) (by decide) ⟨by decide, rfl⟩ rfl rfl (Nat.le_of_ble_eq_true rfl) dX6_ends_115 ?_
    rw [rcr_rcr, rcr_s]
    refine j_aload_n F.1 dX6_ends_118 rfl ?_
    refine j_iload_n F.1 dX6_ends_119 rfl ?_
    refine j_bipush F.1 (6) dX6_ends_120 (by decide) ?_
    refine j_iconst F.1 (1) dX6_ends_122 (by decide) ?_
    refine j_callVv F (k_puts (by assumption) (by decide)) co_X6_puts ml_X6_63 im_X6_puts se_X6_puts in_X6 rc_X6_puts rfl (by decide) (by decide) ⟨by decide, rfl⟩ rfl rfl (Nat.le_of_ble_eq_true rfl) dX6_ends_123 ?_
    rw [rcr_rcr, rcr_s]
    refine j_aload_n F.1 dX6_ends_126 rfl ?_
    refine j_iload_n F.1 dX6_ends_127 rfl ?_
    refine j_bipush F.1 (7) dX6_ends_128 (by decide) ?_
    refine j_iload F.1 dX6_ends_130 rfl ?_
    refine j_callVv F (k_puts (by assumption) (by decide)) co_X6_puts ml_X6_63 im_X6_puts se_X6_puts in_X6 rc_X6_puts rfl (by decide) (by decide) ⟨by decide, rfl⟩ rfl rfl (Nat.le_of_ble_eq_true rfl) dX6_ends_132 ?_
    rw [rcr_rcr, rcr_s]
    refine j_aload_n F.1 dX6_ends_135 rfl ?_
    refine j_iload_n F.1 dX6_ends_136 rfl ?_
    refine j_bipush F.1 (9) dX6_ends_137 (by decide) ?_
    refine j_aload_n F.1 dX6_ends_139 rfl ?_
    refine j_getr F (k := 0) inX6 rfl (by decide) fl_X6_7 ⟨by decide, rfl⟩ rfl dX6_ends_140 ?_
    refine j_iconst F.1 (0) dX6_ends_143 (by decide) ?_
    refine j_iald F ⟨by decide, rfl⟩ rfl (by decide) (by decide) dX6_ends_144 ?_
    refine j_callVv F (k_puts (by assumption) (by decide)) co_X6_puts ml_X6_63 im_X6_puts se_X6_puts in_X6 rc_X6_puts rfl (by decide) (by decide) ⟨by decide, rfl⟩ rfl rfl (Nat.le_of_ble_eq_true rfl) dX6_ends_145 ?_
    rw [rcr_rcr, rcr_s]
    refine j_aload_n F.1 dX6_ends_148 rfl ?_
    refine j_iload_n F.1 dX6_ends_149 rfl ?_
    refine j_bipush F.1 (10) dX6_ends_150 (by decide) ?_
    refine j_iload_n F.1 dX6_ends_152 rfl ?_
    refine j_callVv F (k_puts (by assumption) (by decide)) co_X6_puts ml_X6_63 im_X6_puts se_X6_puts in_X6 rc_X6_puts rfl (by decide) (by decide) ⟨by decide, rfl⟩ rfl rfl (Nat.le_of_ble_eq_true rfl) dX6_ends_153 ?_
    rw [rcr_rcr, rcr_s]
    refine j_aload_n F.1 dX6_ends_156 rfl ?_
    refine j_iload_n F.1 dX6_ends_157 rfl ?_
    refine j_bipush F.1 (11) dX6_ends_158 (by decide) ?_
    refine j_aload_n F.1 dX6_ends_160 rfl ?_
    refine j_iload_n F.1 dX6_ends_161 rfl ?_
    refine j_iconst F.1 (2) dX6_ends_162 (by decide) ?_
    refine j_callVi F (k_of (by assumption) (by decide)) co_X6_of ml_X6_55 im_X6_of se_X6_of in_X6 rc_X6_of rfl (by decide) (by decide) ⟨by decide, rfl⟩ rfl rfl (Nat.le_of_ble_eq_true rfl) dX6_ends_163 ?_
    refine j_callVv F (k_puts (by assumption) (by decide)) co_X6_puts ml_X6_63 im_X6_puts se_X6_puts in_X6 rc_X6_puts rfl (by decide) (by decide) ⟨by decide, rfl⟩ rfl rfl (Nat.le_of_ble_eq_true rfl) dX6_ends_166 ?_
    rw [rcr_rcr, rcr_s]
    refine j_aload_n F.1 dX6_ends_169 rfl ?_
    refine j_iload_n F.1 dX6_ends_170 rfl ?_
    refine j_bipush F.1 (12) dX6_ends_171 (by decide) ?_
    refine j_iload_n F.1 dX6_ends_173 rfl ?_
    refine j_iconst F.1 (1) dX6_ends_174 (by decide) ?_
    refine j_icmp_ne F.1 182 dX6_ends_175 (by decide) (fun _ => ?_) (fun h175 => False.elim (by revert h175; decide))
    refine j_iload_n F.1 dX6_ends_182 rfl ?_
    refine j_callVv F (k_puts (by assumption) (by decide)) co_X6_puts ml_X6_63 im_X6_puts se_X6_puts in_X6 rc_X6_puts rfl (by decide) (by decide) ⟨by decide, rfl⟩ rfl rfl (Nat.le_of_ble_eq_true rfl) dX6_ends_183 ?_
    rw [rcr_rcr, rcr_s]
    refine j_aload_n F.1 dX6_ends_186 rfl ?_
    refine j_getr F (k := 0) inX6 rfl (by decide) fl_X6_7 ⟨by decide, rfl⟩ rfl dX6_ends_187 ?_
    refine j_iconst F.1 (1) dX6_ends_190 (by decide) ?_
    refine j_dup2 F.1 dX6_ends_191 rfl rfl ?_
    refine j_iald F ⟨by decide, rfl⟩ rfl (by decide) (by decide) dX6_ends_192 ?_
    refine j_iconst F.1 (1) dX6_ends_193 (by decide) ?_
    refine j_iadd F.1 dX6_ends_194 ?_
    refine j_iast F ⟨by decide, rfl⟩ rfl (by decide) (by decide) dX6_ends_195 ?_
    refine j_aload_n F.1 dX6_ends_196 rfl ?_
    rw [rcu_r, rcr_rcr, rcr_s]
    refine j_iload_n F.1 dX6_ends_197 rfl ?_
    refine j_callVv F (k_uses hi) co_X6_uses ml_X6_91 im_X6_uses se_X6_uses in_X6 rc_X6_uses rfl (by decide) (by decide) ⟨by decide, rfl⟩ rfl rfl (Nat.le_of_ble_eq_true rfl) dX6_ends_198 ?_
    rw [rcr_rcr, rcr_s]
    refine j_aload_n F.1 dX6_ends_201 rfl ?_
    refine j_dup F.1 dX6_ends_202 rfl ?_
    refine j_geti F (k := 10) inX6 rfl (by decide) fl_X6_88 ⟨by decide, rfl⟩ rfl dX6_ends_203 ?_
    refine j_iconst F.1 (1) dX6_ends_206 (by decide) ?_
    refine j_isub F.1 dX6_ends_207 ?_
    refine j_top (y := nI dp) (by rw [rcr_n (by decide), hd, nI_pred]) ?_
    refine j_puti F (k := 10) inX6 tyX6_ok nmX6 rfl (by decide) fl_X6_88 rfl rfl ⟨by decide, rfl⟩ rfl dX6_ends_208 ?_
    exact j_vret F dX6_ends_211 ((rVe (by unfold M_end A_end; (first | rw [if_pos hs] | rw [if_neg hs]); rfl)))
  · refine j_aload_n F.1 dX6_ends_51 rfl ?_
    refine j_iload_n F.1 dX6_ends_52 rfl ?_
    refine j_bipush F.1 (7) dX6_ends_53 (by decide) ?_
    refine j_callVi F (k_of (by assumption) (by decide)) co_X6_of ml_X6_55 im_X6_of se_X6_of in_X6 rc_X6_of rfl (by decide) (by decide) ⟨by decide, rfl⟩ rfl rfl (Nat.le_of_ble_eq_true rfl) dX6_ends_55 ?_
    refine j_iload F.1 dX6_ends_58 rfl ?_
    refine j_icmp_ne F.1 67 dX6_ends_60 (by decide) (fun h60 => ?_) (fun h60 => ?_)
    · have hs : ¬ (v 1 (ix i 6) = 1 ∧ v 1 (ix i 7) = (A_made (v 1 (ix i 0)) (A_ans (v 1) x) (A_ans (v 1) y))) := fun z => h60 z.2
      refine j_iconst F.1 (0) dX6_ends_67 (by decide) ?_
      refine j_istore F.1 dX6_ends_68 (by rw [hn]; decide) ?_
      refine j_aload_n F.1 dX6_ends_70 rfl ?_
      refine j_getr F (k := 0) inX6 rfl (by decide) fl_X6_7 ⟨by decide, rfl⟩ rfl dX6_ends_71 ?_
      refine j_bipush F.1 (6) dX6_ends_74 (by decide) ?_
      refine j_dup2 F.1 dX6_ends_76 rfl rfl ?_
      refine j_iald F ⟨by decide, rfl⟩ rfl (by decide) (by decide) dX6_ends_77 ?_
      refine j_iload F.1 dX6_ends_78 rfl ?_
      refine j_if_eq F.1 87 dX6_ends_80 (by decide) (fun _ => ?_) (fun h80 => False.elim (by revert h80; decide))
      refine j_iconst F.1 (0) dX6_ends_87 (by decide) ?_
      refine j_iadd F.1 dX6_ends_88 ?_
      refine j_iast F ⟨by decide, rfl⟩ rfl (by decide) (by decide) dX6_ends_89 ?_
      rw [rcu_r]
      refine j_aload_n F.1 dX6_ends_90 rfl ?_
      refine j_iload_n F.1 dX6_ends_91 rfl ?_
      refine j_bipush F.1 (8) dX6_ends_92 (by decide) ?_
      refine j_iload F.1 dX6_ends_94 rfl ?_
      refine j_if_eq F.1 109 dX6_ends_96 (by decide) (fun _ => ?_) (fun h96 => False.elim (by revert h96; decide))
      refine j_aload_n F.1 dX6_ends_109 rfl ?_
      refine j_getr F (k := 0) inX6 rfl (by decide) fl_X6_7 ⟨by decide, rfl⟩ rfl dX6_ends_110 ?_
      refine j_iconst F.1 (0) dX6_ends_113 (by decide) ?_
      refine j_iald F ⟨by decide, rfl⟩ rfl (by decide) (by decide) dX6_ends_114 ?_
      refine j_callVv F (k_puts (by assumption) (by decide)) co_X6_puts ml_X6_63 im_X6_puts se_X6_puts in_X6 rc_X6_puts rfl (by decide) (by decide) ⟨by decide, rfl⟩ rfl rfl (Nat.le_of_ble_eq_true rfl) dX6_ends_115 ?_
      rw [rcr_rcr, rcr_s]
      refine j_aload_n F.1 dX6_ends_118 rfl ?_
      refine j_iload_n F.1 dX6_ends_119 rfl ?_
      refine j_bipush F.1 (6) dX6_ends_120 (by decide) ?_
      refine j_iconst F.1 (1) dX6_ends_122 (by decide) ?_
      refine j_callVv F (k_puts (by assumption) (by decide)) co_X6_puts ml_X6_63 im_X6_puts se_X6_puts in_X6 rc_X6_puts rfl (by decide) (by decide) ⟨by decide, rfl⟩ rfl rfl (Nat.le_of_ble_eq_true rfl) dX6_ends_123 ?_
      rw [rcr_rcr, rcr_s]
      refine j_aload_n F.1 dX6_ends_126 rfl ?_
      refine j_iload_n F.1 dX6_ends_127 rfl ?_
      refine j_bipush F.1 (7) dX6_ends_128 (by decide) ?_
      refine j_iload F.1 dX6_ends_130 rfl ?_
      refine j_callVv F (k_puts (by assumption) (by decide)) co_X6_puts ml_X6_63 im_X6_puts se_X6_puts in_X6 rc_X6_puts rfl (by decide) (by decide) ⟨by decide, rfl⟩ rfl rfl (Nat.le_of_ble_eq_true rfl) dX6_ends_132 ?_
      rw [rcr_rcr, rcr_s]
      refine j_aload_n F.1 dX6_ends_135 rfl ?_
      refine j_iload_n F.1 dX6_ends_136 rfl ?_
      refine j_bipush F.1 (9) dX6_ends_137 (by decide) ?_
      refine j_aload_n F.1 dX6_ends_139 rfl ?_
      refine j_getr F (k := 0) inX6 rfl (by decide) fl_X6_7 ⟨by decide, rfl⟩ rfl dX6_ends_140 ?_
      refine j_iconst F.1 (0) dX6_ends_143 (by decide) ?_
      refine j_iald F ⟨by decide, rfl⟩ rfl (by decide) (by decide) dX6_ends_144 ?_
      refine j_callVv F (k_puts (by assumption) (by decide)) co_X6_puts ml_X6_63 im_X6_puts se_X6_puts in_X6 rc_X6_puts rfl (by decide) (by decide) ⟨by decide, rfl⟩ rfl rfl (Nat.le_of_ble_eq_true rfl) dX6_ends_145 ?_
      rw [rcr_rcr, rcr_s]
      refine j_aload_n F.1 dX6_ends_148 rfl ?_
      refine j_iload_n F.1 dX6_ends_149 rfl ?_
      refine j_bipush F.1 (10) dX6_ends_150 (by decide) ?_
      refine j_iload_n F.1 dX6_ends_152 rfl ?_
      refine j_callVv F (k_puts (by assumption) (by decide)) co_X6_puts ml_X6_63 im_X6_puts se_X6_puts in_X6 rc_X6_puts rfl (by decide) (by decide) ⟨by decide, rfl⟩ rfl rfl (Nat.le_of_ble_eq_true rfl) dX6_ends_153 ?_
      rw [rcr_rcr, rcr_s]
      refine j_aload_n F.1 dX6_ends_156 rfl ?_
      refine j_iload_n F.1 dX6_ends_157 rfl ?_
      refine j_bipush F.1 (11) dX6_ends_158 (by decide) ?_
      refine j_aload_n F.1 dX6_ends_160 rfl ?_
      refine j_iload_n F.1 dX6_ends_161 rfl ?_
      refine j_iconst F.1 (2) dX6_ends_162 (by decide) ?_
      refine j_callVi F (k_of (by assumption) (by decide)) co_X6_of ml_X6_55 im_X6_of se_X6_of in_X6 rc_X6_of rfl (by decide) (by decide) ⟨by decide, rfl⟩ rfl rfl (Nat.le_of_ble_eq_true rfl) dX6_ends_163 ?_
      refine j_callVv F (k_puts (by assumption) (by decide)) co_X6_puts ml_X6_63 im_X6_puts se_X6_puts in_X6 rc_X6_puts rfl (by decide) (by decide) ⟨by decide, rfl⟩ rfl rfl (Nat.le_of_ble_eq_true rfl) dX6_ends_166 ?_
      rw [rcr_rcr, rcr_s]
      refine j_aload_n F.1 dX6_ends_169 rfl ?_
      refine j_iload_n F.1 dX6_ends_170 rfl ?_
      refine j_bipush F.1 (12) dX6_ends_171 (by decide) ?_
      refine j_iload_n F.1 dX6_ends_173 rfl ?_
      refine j_iconst F.1 (1) dX6_ends_174 (by decide) ?_
      refine j_icmp_ne F.1 182 dX6_ends_175 (by decide) (fun _ => ?_) (fun h175 => False.elim (by revert h175; decide))
      refine j_iload_n F.1 dX6_ends_182 rfl ?_
      refine j_callVv F (k_puts (by assumption) (by decide)) co_X6_puts ml_X6_63 im_X6_puts se_X6_puts in_X6 rc_X6_puts rfl (by decide) (by decide) ⟨by decide, rfl⟩ rfl rfl (Nat.le_of_ble_eq_true rfl) dX6_ends_183 ?_
      rw [rcr_rcr, rcr_s]
      refine j_aload_n F.1 dX6_ends_186 rfl ?_
      refine j_getr F (k := 0) inX6 rfl (by decide) fl_X6_7 ⟨by decide, rfl⟩ rfl dX6_ends_187 ?_
      refine j_iconst F.1 (1) dX6_ends_190 (by decide) ?_
      refine j_dup2 F.1 dX6_ends_191 rfl rfl ?_
      refine j_iald F ⟨by decide, rfl⟩ rfl (by decide) (by decide) dX6_ends_192 ?_
      refine j_iconst F.1 (1) dX6_ends_193 (by decide) ?_
      refine j_iadd F.1 dX6_ends_194 ?_
      refine j_iast F ⟨by decide, rfl⟩ rfl (by decide) (by decide) dX6_ends_195 ?_
      refine j_aload_n F.1 dX6_ends_196 rfl ?_
      rw [rcu_r, rcr_rcr, rcr_s]
      refine j_iload_n F.1 dX6_ends_197 rfl ?_
      refine j_callVv F (k_uses hi) co_X6_uses ml_X6_91 im_X6_uses se_X6_uses in_X6 rc_X6_uses rfl (by decide) (by decide) ⟨by decide, rfl⟩ rfl rfl (Nat.le_of_ble_eq_true rfl) dX6_ends_198 ?_
      rw [rcr_rcr, rcr_s]
      refine j_aload_n F.1 dX6_ends_201 rfl ?_
      refine j_dup F.1 dX6_ends_202 rfl ?_
      refine j_geti F (k := 10) inX6 rfl (by decide) fl_X6_88 ⟨by decide, rfl⟩ rfl dX6_ends_203 ?_
      refine j_iconst F.1 (1) dX6_ends_206 (by decide) ?_
      refine j_isub F.1 dX6_ends_207 ?_
      refine j_top (y := nI dp) (by rw [rcr_n (by decide), hd, nI_pred]) ?_
      refine j_puti F (k := 10) inX6 tyX6_ok nmX6 rfl (by decide) fl_X6_88 rfl rfl ⟨by decide, rfl⟩ rfl dX6_ends_208 ?_
      exact j_vret F dX6_ends_211 ((rVe (by unfold M_end A_end; (first | rw [if_pos hs] | rw [if_neg hs]); rfl)))
    · have hs : v 1 (ix i 6) = 1 ∧ v 1 (ix i 7) = (A_made (v 1 (ix i 0)) (A_ans (v 1) x) (A_ans (v 1) y)) := And.intro h48 h60
      refine j_iconst F.1 (1) dX6_ends_63 (by decide) ?_
      refine j_goto F.1 68 dX6_ends_64 (by decide) ?_
      refine j_istore F.1 dX6_ends_68 (by rw [hn]; decide) ?_
      refine j_aload_n F.1 dX6_ends_70 rfl ?_
      refine j_getr F (k := 0) inX6 rfl (by decide) fl_X6_7 ⟨by decide, rfl⟩ rfl dX6_ends_71 ?_
      refine j_bipush F.1 (6) dX6_ends_74 (by decide) ?_
      refine j_dup2 F.1 dX6_ends_76 rfl rfl ?_
      refine j_iald F ⟨by decide, rfl⟩ rfl (by decide) (by decide) dX6_ends_77 ?_
      refine j_iload F.1 dX6_ends_78 rfl ?_
      refine j_if_eq F.1 87 dX6_ends_80 (by decide) (fun h80 => False.elim (by revert h80; decide)) (fun _ => ?_)
      refine j_iconst F.1 (1) dX6_ends_83 (by decide) ?_
      refine j_goto F.1 88 dX6_ends_84 (by decide) ?_
      refine j_iadd F.1 dX6_ends_88 ?_
      refine j_iast F ⟨by decide, rfl⟩ rfl (by decide) (by decide) dX6_ends_89 ?_
      rw [rcu_r]
      refine j_aload_n F.1 dX6_ends_90 rfl ?_
      refine j_iload_n F.1 dX6_ends_91 rfl ?_
      refine j_bipush F.1 (8) dX6_ends_92 (by decide) ?_
      refine j_iload F.1 dX6_ends_94 rfl ?_
      refine j_if_eq F.1 109 dX6_ends_96 (by decide) (fun h96 => False.elim (by revert h96; decide)) (fun _ => ?_)
      refine j_aload_n F.1 dX6_ends_99 rfl ?_
      refine j_iload_n F.1 dX6_ends_100 rfl ?_
      refine j_bipush F.1 (8) dX6_ends_101 (by decide) ?_
      refine j_callVi F (k_of (by assumption) (by decide)) co_X6_of ml_X6_55 im_X6_of se_X6_of in_X6 rc_X6_of rfl (by decide) (by decide) ⟨by decide, rfl⟩ rfl rfl (Nat.le_of_ble_eq_true rfl) dX6_ends_103 ?_
      refine j_top (y := v 1 (ix i 8)) (by first | rw [rcr_s, pk_un (show ix i 8 ≠ 6 by unfold ix; omega)] | rw [rcu_row, pk_un (show ix i 8 ≠ 6 by unfold ix; omega)]) ?_
      refine j_goto F.1 115 dX6_ends_106 (by decide) ?_
      refine j_callVv F (k_puts (by assumption) (by decide)) co_X6_puts ml_X6_63 im_X6_puts se_X6_puts in_X6 rc_X6_puts rfl (by decide) (by decide) ⟨by decide, rfl⟩ rfl rfl (Nat.le_of_ble_eq_true rfl) dX6_ends_115 ?_
      rw [rcr_rcr, rcr_s]
      refine j_aload_n F.1 dX6_ends_118 rfl ?_
      refine j_iload_n F.1 dX6_ends_119 rfl ?_
      refine j_bipush F.1 (6) dX6_ends_120 (by decide) ?_
      refine j_iconst F.1 (1) dX6_ends_122 (by decide) ?_
      refine j_callVv F (k_puts (by assumption) (by decide)) co_X6_puts ml_X6_63 im_X6_puts se_X6_puts in_X6 rc_X6_puts rfl (by decide) (by decide) ⟨by decide, rfl⟩ rfl rfl (Nat.le_of_ble_eq_true rfl) dX6_ends_123 ?_
      rw [rcr_rcr, rcr_s]
      refine j_aload_n F.1 dX6_ends_126 rfl ?_
      refine j_iload_n F.1 dX6_ends_127 rfl ?_
      refine j_bipush F.1 (7) dX6_ends_128 (by decide) ?_
      refine j_iload F.1 dX6_ends_130 rfl ?_
      refine j_callVv F (k_puts (by assumption) (by decide)) co_X6_puts ml_X6_63 im_X6_puts se_X6_puts in_X6 rc_X6_puts rfl (by decide) (by decide) ⟨by decide, rfl⟩ rfl rfl (Nat.le_of_ble_eq_true rfl) dX6_ends_132 ?_
      rw [rcr_rcr, rcr_s]
      refine j_aload_n F.1 dX6_ends_135 rfl ?_
      refine j_iload_n F.1 dX6_ends_136 rfl ?_
      refine j_bipush F.1 (9) dX6_ends_137 (by decide) ?_
      refine j_aload_n F.1 dX6_ends_139 rfl ?_
      refine j_getr F (k := 0) inX6 rfl (by decide) fl_X6_7 ⟨by decide, rfl⟩ rfl dX6_ends_140 ?_
      refine j_iconst F.1 (0) dX6_ends_143 (by decide) ?_
      refine j_iald F ⟨by decide, rfl⟩ rfl (by decide) (by decide) dX6_ends_144 ?_
      refine j_callVv F (k_puts (by assumption) (by decide)) co_X6_puts ml_X6_63 im_X6_puts se_X6_puts in_X6 rc_X6_puts rfl (by decide) (by decide) ⟨by decide, rfl⟩ rfl rfl (Nat.le_of_ble_eq_true rfl) dX6_ends_145 ?_
      rw [rcr_rcr, rcr_s]
      refine j_aload_n F.1 dX6_ends_148 rfl ?_
      refine j_iload_n F.1 dX6_ends_149 rfl ?_
      refine j_bipush F.1 (10) dX6_ends_150 (by decide) ?_
      refine j_iload_n F.1 dX6_ends_152 rfl ?_
      refine j_callVv F (k_puts (by assumption) (by decide)) co_X6_puts ml_X6_63 im_X6_puts se_X6_puts in_X6 rc_X6_puts rfl (by decide) (by decide) ⟨by decide, rfl⟩ rfl rfl (Nat.le_of_ble_eq_true rfl) dX6_ends_153 ?_
      rw [rcr_rcr, rcr_s]
      refine j_aload_n F.1 dX6_ends_156 rfl ?_
      refine j_iload_n F.1 dX6_ends_157 rfl ?_
      refine j_bipush F.1 (11) dX6_ends_158 (by decide) ?_
      refine j_aload_n F.1 dX6_ends_160 rfl ?_
      refine j_iload_n F.1 dX6_ends_161 rfl ?_
      refine j_iconst F.1 (2) dX6_ends_162 (by decide) ?_
      refine j_callVi F (k_of (by assumption) (by decide)) co_X6_of ml_X6_55 im_X6_of se_X6_of in_X6 rc_X6_of rfl (by decide) (by decide) ⟨by decide, rfl⟩ rfl rfl (Nat.le_of_ble_eq_true rfl) dX6_ends_163 ?_
      refine j_callVv F (k_puts (by assumption) (by decide)) co_X6_puts ml_X6_63 im_X6_puts se_X6_puts in_X6 rc_X6_puts rfl (by decide) (by decide) ⟨by decide, rfl⟩ rfl rfl (Nat.le_of_ble_eq_true rfl) dX6_ends_166 ?_
      rw [rcr_rcr, rcr_s]
      refine j_aload_n F.1 dX6_ends_169 rfl ?_
      refine j_iload_n F.1 dX6_ends_170 rfl ?_
      refine j_bipush F.1 (12) dX6_ends_171 (by decide) ?_
      refine j_iload_n F.1 dX6_ends_173 rfl ?_
      refine j_iconst F.1 (1) dX6_ends_174 (by decide) ?_
      refine j_icmp_ne F.1 182 dX6_ends_175 (by decide) (fun _ => ?_) (fun h175 => False.elim (by revert h175; decide))
      refine j_iload_n F.1 dX6_ends_182 rfl ?_
      refine j_callVv F (k_puts (by assumption) (by decide)) co_X6_puts ml_X6_63 im_X6_puts se_X6_puts in_X6 rc_X6_puts rfl (by decide) (by decide) ⟨by decide, rfl⟩ rfl rfl (Nat.le_of_ble_eq_true rfl) dX6_ends_183 ?_
      rw [rcr_rcr, rcr_s]
      refine j_aload_n F.1 dX6_ends_186 rfl ?_
      refine j_getr F (k := 0) inX6 rfl (by decide) fl_X6_7 ⟨by decide, rfl⟩ rfl dX6_ends_187 ?_
      refine j_iconst F.1 (1) dX6_ends_190 (by decide) ?_
      refine j_dup2 F.1 dX6_ends_191 rfl rfl ?_
      refine j_iald F ⟨by decide, rfl⟩ rfl (by decide) (by decide) dX6_ends_192 ?_
      refine j_iconst F.1 (1) dX6_ends_193 (by decide) ?_
      refine j_iadd F.1 dX6_ends_194 ?_
      refine j_iast F ⟨by decide, rfl⟩ rfl (by decide) (by decide) dX6_ends_195 ?_
      refine j_aload_n F.1 dX6_ends_196 rfl ?_
      rw [rcu_r, rcr_rcr, rcr_s]
      refine j_iload_n F.1 dX6_ends_197 rfl ?_
      refine j_callVv F (k_uses hi) co_X6_uses ml_X6_91 im_X6_uses se_X6_uses in_X6 rc_X6_uses rfl (by decide) (by decide) ⟨by decide, rfl⟩ rfl rfl (Nat.le_of_ble_eq_true rfl) dX6_ends_198 ?_
      rw [rcr_rcr, rcr_s]
      refine j_aload_n F.1 dX6_ends_201 rfl ?_
      refine j_dup F.1 dX6_ends_202 rfl ?_
      refine j_geti F (k := 10) inX6 rfl (by decide) fl_X6_88 ⟨by decide, rfl⟩ rfl dX6_ends_203 ?_
      refine j_iconst F.1 (1) dX6_ends_206 (by decide) ?_
      refine j_isub F.1 dX6_ends_207 ?_
      refine j_top (y := nI dp) (by rw [rcr_n (by decide), hd, nI_pred]) ?_
      refine j_puti F (k := 10) inX6 tyX6_ok nmX6 rfl (by decide) fl_X6_88 rfl rfl ⟨by decide, rfl⟩ rfl dX6_ends_208 ?_
      exact j_vret F dX6_ends_211 ((rVe (by unfold M_end A_end; (first | rw [if_pos hs] | rw [if_neg hs]); rfl)))
/-- a step of looking again: k is the step -/
def M_checks (v : rcM) (tp c k u w : Nat) : rcM :=
  if 0 < k ∧ v 1 (ix c 9) < A_chg (v 1) u then rcu (rcu v 6 tp 1) 7 tp 0
  else if nI k = v 1 (ix c 10) then rcu (rcr v 1 (A_keep (v 1) c)) 0 10 (nI tp)
  else M_enters (rcu v 7 tp (nI k + 1)) w (tp + 1)
set_option maxHeartbeats 4000000 in
set_option maxRecDepth 100000 in
theorem k_checks {Y : rcY} {la : Launch} {v : rcM} {tp c k u w : Nat} (hc10 : c < 10) (ht10 : tp < 10) (hc : v 5 tp = nI c) (hk : v 7 tp = nI k) (hd : v 0 10 = nI (tp + 1)) (hk2 : k ≤ 2) (hu : 0 < k → u < 10 ∧ v 1 (ix c (10 + k)) = nI u) (hw : ¬ nI k = v 1 (ix c 10) → k < 2 ∧ w < 10 ∧ v 1 (ix c (11 + k)) = nI w ∧ mayPush (rcu v 7 tp (nI k + 1)) w (tp + 1)) : rcT shM 13 Y la 3 (yX6_checks, cX6_checks, 4, none) [.ref (Y.2.1 0), .int (nI tp)] (v) (rV (M_checks v tp c k u w)) := by
  refine rcT.of (by decide +kernel) (Nat.le_of_ble_eq_true rfl) (fun X F hn => ?_)
  refine j_aload_n F.1 dX6_checks_0 rfl ?_
  refine j_getr F (k := 6) inX6 rfl (by decide) fl_X6_22 ⟨by decide, rfl⟩ rfl dX6_checks_1 ?_
  refine j_iload_n F.1 dX6_checks_4 rfl ?_
  refine j_iald F ⟨by decide, rfl⟩ rfl (by omega) (by decide) dX6_checks_5 ?_
  refine j_top hc ?_
  refine j_istore_n F.1 dX6_checks_6 (by rw [hn]; decide) ?_
  refine j_aload_n F.1 dX6_checks_7 rfl ?_
  refine j_getr F (k := 8) inX6 rfl (by decide) fl_X6_28 ⟨by decide, rfl⟩ rfl dX6_checks_8 ?_
  refine j_iload_n F.1 dX6_checks_11 rfl ?_
  refine j_iald F ⟨by decide, rfl⟩ rfl (by omega) (by decide) dX6_checks_12 ?_
  refine j_top hk ?_
  refine j_istore_n F.1 dX6_checks_13 (by rw [hn]; decide) ?_
  refine j_iload_n F.1 dX6_checks_14 rfl ?_
  refine j_if_le F.1 60 dX6_checks_15 (by decide) (fun h15 => ?_) (fun h15 => ?_)
  · have hk0 : ¬ 0 < k := fun z => absurd (nI_lt z (by omega : k < 2 ^ 31)) (Int32.not_lt.mpr h15)
    have nc : ¬ (0 < k ∧ v 1 (ix c 9) < A_chg (v 1) u) := fun z => hk0 z.1
    refine j_iload_n F.1 dX6_checks_60 rfl ?_
    refine j_aload_n F.1 dX6_checks_61 rfl ?_
    refine j_iload_n F.1 dX6_checks_62 rfl ?_
    refine j_bipush F.1 (10) dX6_checks_63 (by decide) ?_
    refine j_callVi F (k_of hc10 (by decide)) co_X6_of ml_X6_55 im_X6_of se_X6_of in_X6 rc_X6_of rfl (by decide) (by decide) ⟨by decide, rfl⟩ rfl rfl (Nat.le_of_ble_eq_true rfl) dX6_checks_65 ?_
    refine j_icmp_ne F.1 112 dX6_checks_68 (by decide) (fun h68 => ?_) (fun h68 => ?_)
    · refine j_aload_n F.1 dX6_checks_112 rfl ?_
      refine j_getr F (k := 8) inX6 rfl (by decide) fl_X6_28 ⟨by decide, rfl⟩ rfl dX6_checks_113 ?_
      refine j_iload_n F.1 dX6_checks_116 rfl ?_
      refine j_dup2 F.1 dX6_checks_117 rfl rfl ?_
      refine j_iald F ⟨by decide, rfl⟩ rfl (by omega) (by decide) dX6_checks_118 ?_
      refine j_iconst F.1 (1) dX6_checks_119 (by decide) ?_
      refine j_iadd F.1 dX6_checks_120 ?_
      refine j_top (y := nI k + 1) (by rw [hk]) ?_
      refine j_iast F ⟨by decide, rfl⟩ rfl (by omega) (by decide) dX6_checks_121 ?_
      refine j_aload_n F.1 dX6_checks_122 rfl ?_
      refine j_aload_n F.1 dX6_checks_123 rfl ?_
      refine j_iload_n F.1 dX6_checks_124 rfl ?_
      refine j_bipush F.1 (11) dX6_checks_125 (by decide) ?_
      refine j_iload_n F.1 dX6_checks_127 rfl ?_
      refine j_iadd F.1 dX6_checks_128 ?_
      refine j_top (y := nI (11 + k)) (by rw [show (11 : Int32) = nI 11 from rfl, nI_add]) ?_
      refine j_callVi F (k_of hc10 (by have := (hw h68).1; omega)) co_X6_of ml_X6_55 im_X6_of se_X6_of in_X6 rc_X6_of rfl (by decide) (by decide) ⟨by decide, rfl⟩ rfl rfl (Nat.le_of_ble_eq_true rfl) dX6_checks_129 ?_
      refine j_top (y := nI w) (by rw [rcu_ne (by decide)]; exact (hw h68).2.2.1) ?_
      refine j_callVv F (k_enters (hw h68).2.1 (by rw [rcu_ne (by decide)]; exact hd) (by omega) (hw h68).2.2.2) co_X6_enters ml_X6_114 im_X6_enters se_X6_enters in_X6 rc_X6_enters rfl (by decide) (by decide) ⟨by decide, rfl⟩ rfl rfl (Nat.le_of_ble_eq_true rfl) dX6_checks_132 ?_
      exact j_vret F dX6_checks_135 ((rVe (by unfold M_checks; first | rw [if_pos nc] | (rw [if_neg nc, if_pos keep]; rfl) | rw [if_neg nc, if_neg h68])))
    · have keep := h68
      refine j_aload_n F.1 dX6_checks_71 rfl ?_
      refine j_iload_n F.1 dX6_checks_72 rfl ?_
      refine j_bipush F.1 (9) dX6_checks_73 (by decide) ?_
      refine j_aload_n F.1 dX6_checks_75 rfl ?_
      refine j_getr F (k := 0) inX6 rfl (by decide) fl_X6_7 ⟨by decide, rfl⟩ rfl dX6_checks_76 ?_
      refine j_iconst F.1 (0) dX6_checks_79 (by decide) ?_
      refine j_iald F ⟨by decide, rfl⟩ rfl (by decide) (by decide) dX6_checks_80 ?_
      refine j_callVv F (k_puts (by assumption) (by decide)) co_X6_puts ml_X6_63 im_X6_puts se_X6_puts in_X6 rc_X6_puts rfl (by decide) (by decide) ⟨by decide, rfl⟩ rfl rfl (Nat.le_of_ble_eq_true rfl) dX6_checks_81 ?_
      refine j_aload_n F.1 dX6_checks_84 rfl ?_
      refine j_getr F (k := 0) inX6 rfl (by decide) fl_X6_7 ⟨by decide, rfl⟩ rfl dX6_checks_85 ?_
      refine j_iconst F.1 (2) dX6_checks_88 (by decide) ?_
      refine j_dup2 F.1 dX6_checks_89 rfl rfl ?_
      refine j_iald F ⟨by decide, rfl⟩ rfl (by decide) (by decide) dX6_checks_90 ?_
      refine j_iconst F.1 (1) dX6_checks_91 (by decide) ?_
      refine j_iadd F.1 dX6_checks_92 ?_
      refine j_iast F ⟨by decide, rfl⟩ rfl (by decide) (by decide) dX6_checks_93 ?_
      rw [rcu_r, rcr_rcr, rcr_s]
      refine j_aload_n F.1 dX6_checks_94 rfl ?_
      refine j_iload_n F.1 dX6_checks_95 rfl ?_
      refine j_callVv F (k_uses hc10) co_X6_uses ml_X6_91 im_X6_uses se_X6_uses in_X6 rc_X6_uses rfl (by decide) (by decide) ⟨by decide, rfl⟩ rfl rfl (Nat.le_of_ble_eq_true rfl) dX6_checks_96 ?_
      rw [rcr_rcr, rcr_s]
      refine j_aload_n F.1 dX6_checks_99 rfl ?_
      refine j_dup F.1 dX6_checks_100 rfl ?_
      refine j_geti F (k := 10) inX6 rfl (by decide) fl_X6_88 ⟨by decide, rfl⟩ rfl dX6_checks_101 ?_
      refine j_iconst F.1 (1) dX6_checks_104 (by decide) ?_
      refine j_isub F.1 dX6_checks_105 ?_
      refine j_top (y := nI tp) (by rw [rcr_n (by decide), hd, nI_pred]) ?_
      refine j_puti F (k := 10) inX6 tyX6_ok nmX6 rfl (by decide) fl_X6_88 rfl rfl ⟨by decide, rfl⟩ rfl dX6_checks_106 ?_
      refine j_goto F.1 135 dX6_checks_109 (by decide) ?_
      exact j_vret F dX6_checks_135 ((rVe (by unfold M_checks; first | rw [if_pos nc] | (rw [if_neg nc, if_pos keep]; rfl) | rw [if_neg nc, if_neg h68])))
  · have hk0 : 0 < k := by
      rcases Nat.eq_zero_or_pos k with z | z
      · subst z; exact absurd (by decide) h15
      · exact z
    refine j_aload_n F.1 dX6_checks_18 rfl ?_
    refine j_aload_n F.1 dX6_checks_19 rfl ?_
    refine j_iload_n F.1 dX6_checks_20 rfl ?_
    refine j_bipush F.1 (11) dX6_checks_21 (by decide) ?_
    refine j_iload_n F.1 dX6_checks_23 rfl ?_
    refine j_iadd F.1 dX6_checks_24 ?_
    refine j_iconst F.1 (1) dX6_checks_25 (by decide) ?_
    refine j_isub F.1 dX6_checks_26 ?_
    refine j_top (y := nI (10 + k)) (by rw [show (11 : Int32) = nI 11 from rfl, nI_add, show 11 + k = (10 + k) + 1 by omega, nI_pred]) ?_
    refine j_callVi F (k_of hc10 (by omega)) co_X6_of ml_X6_55 im_X6_of se_X6_of in_X6 rc_X6_of rfl (by decide) (by decide) ⟨by decide, rfl⟩ rfl rfl (Nat.le_of_ble_eq_true rfl) dX6_checks_27 ?_
    refine j_top (hu hk0).2 ?_
    refine j_callVi F (k_changedAt (hu hk0).1) co_X6_changedAt ml_X6_111 im_X6_changedAt se_X6_changedAt in_X6 rc_X6_changedAt rfl (by decide) (by decide) ⟨by decide, rfl⟩ rfl rfl (Nat.le_of_ble_eq_true rfl) dX6_checks_30 ?_
    refine j_aload_n F.1 dX6_checks_33 rfl ?_
    refine j_iload_n F.1 dX6_checks_34 rfl ?_
    refine j_bipush F.1 (9) dX6_checks_35 (by decide) ?_
    refine j_callVi F (k_of hc10 (by decide)) co_X6_of ml_X6_55 im_X6_of se_X6_of in_X6 rc_X6_of rfl (by decide) (by decide) ⟨by decide, rfl⟩ rfl rfl (Nat.le_of_ble_eq_true rfl) dX6_checks_37 ?_
    refine j_icmp_le F.1 60 dX6_checks_40 (by decide) (fun h40 => ?_) (fun h40 => ?_)
    · have nc : ¬ (0 < k ∧ v 1 (ix c 9) < A_chg (v 1) u) := fun z => Int32.not_lt.mpr h40 z.2
      refine j_iload_n F.1 dX6_checks_60 rfl ?_
      refine j_aload_n F.1 dX6_checks_61 rfl ?_
      refine j_iload_n F.1 dX6_checks_62 rfl ?_
      refine j_bipush F.1 (10) dX6_checks_63 (by decide) ?_
      refine j_callVi F (k_of hc10 (by decide)) co_X6_of ml_X6_55 im_X6_of se_X6_of in_X6 rc_X6_of rfl (by decide) (by decide) ⟨by decide, rfl⟩ rfl rfl (Nat.le_of_ble_eq_true rfl) dX6_checks_65 ?_
      refine j_icmp_ne F.1 112 dX6_checks_68 (by decide) (fun h68 => ?_) (fun h68 => ?_)
      · refine j_aload_n F.1 dX6_checks_112 rfl ?_
        refine j_getr F (k := 8) inX6 rfl (by decide) fl_X6_28 ⟨by decide, rfl⟩ rfl dX6_checks_113 ?_
        refine j_iload_n F.1 dX6_checks_116 rfl ?_
        refine j_dup2 F.1 dX6_checks_117 rfl rfl ?_
        refine j_iald F ⟨by decide, rfl⟩ rfl (by omega) (by decide) dX6_checks_118 ?_
        refine j_iconst F.1 (1) dX6_checks_119 (by decide) ?_
        refine j_iadd F.1 dX6_checks_120 ?_
        refine j_top (y := nI k + 1) (by rw [hk]) ?_
        refine j_iast F ⟨by decide, rfl⟩ rfl (by omega) (by decide) dX6_checks_121 ?_
        refine j_aload_n F.1 dX6_checks_122 rfl ?_
        refine j_aload_n F.1 dX6_checks_123 rfl ?_
        refine j_iload_n F.1 dX6_checks_124 rfl ?_
        refine j_bipush F.1 (11) dX6_checks_125 (by decide) ?_
        refine j_iload_n F.1 dX6_checks_127 rfl ?_
        refine j_iadd F.1 dX6_checks_128 ?_
        refine j_top (y := nI (11 + k)) (by rw [show (11 : Int32) = nI 11 from rfl, nI_add]) ?_
        refine j_callVi F (k_of hc10 (by have := (hw h68).1; omega)) co_X6_of ml_X6_55 im_X6_of se_X6_of in_X6 rc_X6_of rfl (by decide) (by decide) ⟨by decide, rfl⟩ rfl rfl (Nat.le_of_ble_eq_true rfl) dX6_checks_129 ?_
        refine j_top (y := nI w) (by rw [rcu_ne (by decide)]; exact (hw h68).2.2.1) ?_
        refine j_callVv F (k_enters (hw h68).2.1 (by rw [rcu_ne (by decide)]; exact hd) (by omega) (hw h68).2.2.2) co_X6_enters ml_X6_114 im_X6_enters se_X6_enters in_X6 rc_X6_enters rfl (by decide) (by decide) ⟨by decide, rfl⟩ rfl rfl (Nat.le_of_ble_eq_true rfl) dX6_checks_132 ?_
        exact j_vret F dX6_checks_135 ((rVe (by unfold M_checks; first | rw [if_pos nc] | (rw [if_neg nc, if_pos keep]; rfl) | rw [if_neg nc, if_neg h68])))
      · have keep := h68
        refine j_aload_n F.1 dX6_checks_71 rfl ?_
        refine j_iload_n F.1 dX6_checks_72 rfl ?_
        refine j_bipush F.1 (9) dX6_checks_73 (by decide) ?_
        refine j_aload_n F.1 dX6_checks_75 rfl ?_
        refine j_getr F (k := 0) inX6 rfl (by decide) fl_X6_7 ⟨by decide, rfl⟩ rfl dX6_checks_76 ?_
        refine j_iconst F.1 (0) dX6_checks_79 (by decide) ?_
        refine j_iald F ⟨by decide, rfl⟩ rfl (by decide) (by decide) dX6_checks_80 ?_
        refine j_callVv F (k_puts (by assumption) (by decide)) co_X6_puts ml_X6_63 im_X6_puts se_X6_puts in_X6 rc_X6_puts rfl (by decide) (by decide) ⟨by decide, rfl⟩ rfl rfl (Nat.le_of_ble_eq_true rfl) dX6_checks_81 ?_
        refine j_aload_n F.1 dX6_checks_84 rfl ?_
        refine j_getr F (k := 0) inX6 rfl (by decide) fl_X6_7 ⟨by decide, rfl⟩ rfl dX6_checks_85 ?_
        refine j_iconst F.1 (2) dX6_checks_88 (by decide) ?_
        refine j_dup2 F.1 dX6_checks_89 rfl rfl ?_
        refine j_iald F ⟨by decide, rfl⟩ rfl (by decide) (by decide) dX6_checks_90 ?_
        refine j_iconst F.1 (1) dX6_checks_91 (by decide) ?_
        refine j_iadd F.1 dX6_checks_92 ?_
        refine j_iast F ⟨by decide, rfl⟩ rfl (by decide) (by decide) dX6_checks_93 ?_
        rw [rcu_r, rcr_rcr, rcr_s]
        refine j_aload_n F.1 dX6_checks_94 rfl ?_
        refine j_iload_n F.1 dX6_checks_95 rfl ?_
        refine j_callVv F (k_uses hc10) co_X6_uses ml_X6_91 im_X6_uses se_X6_uses in_X6 rc_X6_uses rfl (by decide) (by decide) ⟨by decide, rfl⟩ rfl rfl (Nat.le_of_ble_eq_true rfl) dX6_checks_96 ?_
        rw [rcr_rcr, rcr_s]
        refine j_aload_n F.1 dX6_checks_99 rfl ?_
        refine j_dup F.1 dX6_checks_100 rfl ?_
        refine j_geti F (k := 10) inX6 rfl (by decide) fl_X6_88 ⟨by decide, rfl⟩ rfl dX6_checks_101 ?_
        refine j_iconst F.1 (1) dX6_checks_104 (by decide) ?_
        refine j_isub F.1 dX6_checks_105 ?_
        refine j_top (y := nI tp) (by rw [rcr_n (by decide), hd, nI_pred]) ?_
        refine j_puti F (k := 10) inX6 tyX6_ok nmX6 rfl (by decide) fl_X6_88 rfl rfl ⟨by decide, rfl⟩ rfl dX6_checks_106 ?_
        refine j_goto F.1 135 dX6_checks_109 (by decide) ?_
        exact j_vret F dX6_checks_135 ((rVe (by unfold M_checks; first | rw [if_pos nc] | (rw [if_neg nc, if_pos keep]; rfl) | rw [if_neg nc, if_neg h68])))
    · have nc : 0 < k ∧ v 1 (ix c 9) < A_chg (v 1) u := ⟨hk0, Int32.not_le.mp h40⟩
      refine j_aload_n F.1 dX6_checks_43 rfl ?_
      refine j_getr F (k := 7) inX6 rfl (by decide) fl_X6_25 ⟨by decide, rfl⟩ rfl dX6_checks_44 ?_
      refine j_iload_n F.1 dX6_checks_47 rfl ?_
      refine j_iconst F.1 (1) dX6_checks_48 (by decide) ?_
      refine j_iast F ⟨by decide, rfl⟩ rfl (by omega) (by decide) dX6_checks_49 ?_
      refine j_aload_n F.1 dX6_checks_50 rfl ?_
      refine j_getr F (k := 8) inX6 rfl (by decide) fl_X6_28 ⟨by decide, rfl⟩ rfl dX6_checks_51 ?_
      refine j_iload_n F.1 dX6_checks_54 rfl ?_
      refine j_iconst F.1 (0) dX6_checks_55 (by decide) ?_
      refine j_iast F ⟨by decide, rfl⟩ rfl (by omega) (by decide) dX6_checks_56 ?_
      refine j_goto F.1 135 dX6_checks_57 (by decide) ?_
      exact j_vret F dX6_checks_135 ((rVe (by unfold M_checks; first | rw [if_pos nc] | (rw [if_neg nc, if_pos keep]; rfl) | rw [if_neg nc, if_neg h68])))
set_option maxHeartbeats 4000000 in
set_option maxRecDepth 100000 in
theorem k_works0 {Y : rcY} {la : Launch} {v : rcM} {tp c x : Nat} (hc10 : c < 10) (ht10 : tp < 10) (hc : v 5 tp = nI c) (hd : v 0 10 = nI (tp + 1)) (hx : v 1 (ix c 2) = nI x) (hx10 : x < 10) (hk : v 7 tp = 0) (hp : mayPush (rcu v 7 tp 1) x (tp + 1)) : rcT shM 13 Y la 3 (yX6_works, cX6_works, 5, none) [.ref (Y.2.1 0), .int (nI tp)] (v) (rV (M_enters (rcu v 7 tp 1) x (tp + 1))) := by
  refine rcT.of (by decide +kernel) (Nat.le_of_ble_eq_true rfl) (fun X F hn => ?_)
  refine j_aload_n F.1 dX6_works_0 rfl ?_
  refine j_getr F (k := 6) inX6 rfl (by decide) fl_X6_22 ⟨by decide, rfl⟩ rfl dX6_works_1 ?_
  refine j_iload_n F.1 dX6_works_4 rfl ?_
  refine j_iald F ⟨by decide, rfl⟩ rfl (by omega) (by decide) dX6_works_5 ?_
  refine j_top hc ?_
  refine j_istore_n F.1 dX6_works_6 (by rw [hn]; decide) ?_
  refine j_aload_n F.1 dX6_works_7 rfl ?_
  refine j_getr F (k := 8) inX6 rfl (by decide) fl_X6_28 ⟨by decide, rfl⟩ rfl dX6_works_8 ?_
  refine j_iload_n F.1 dX6_works_11 rfl ?_
  refine j_dup2 F.1 dX6_works_12 rfl rfl ?_
  refine j_iald F ⟨by decide, rfl⟩ rfl (by omega) (by decide) dX6_works_13 ?_
  refine j_iconst F.1 (1) dX6_works_14 (by decide) ?_
  refine j_iadd F.1 dX6_works_15 ?_
  refine j_top (y := 1) (by rw [hk]; rfl) ?_
  refine j_iast F ⟨by decide, rfl⟩ rfl (by omega) (by decide) dX6_works_16 ?_
  refine j_aload_n F.1 dX6_works_17 rfl ?_
  refine j_getr F (k := 8) inX6 rfl (by decide) fl_X6_28 ⟨by decide, rfl⟩ rfl dX6_works_18 ?_
  refine j_iload_n F.1 dX6_works_21 rfl ?_
  refine j_iald F ⟨by decide, rfl⟩ rfl (by omega) (by decide) dX6_works_22 ?_
  refine j_top (y := 1) (by rw [rcu_self]) ?_
  refine j_iconst F.1 (1) dX6_works_23 (by decide) ?_
  refine j_icmp_ne F.1 40 dX6_works_24 (by decide) (fun h24 => False.elim (by revert h24; decide)) (fun _ => ?_)
  refine j_aload_n F.1 dX6_works_27 rfl ?_
  refine j_aload_n F.1 dX6_works_28 rfl ?_
  refine j_iload_n F.1 dX6_works_29 rfl ?_
  refine j_iconst F.1 (2) dX6_works_30 (by decide) ?_
  refine j_callVi F (k_of hc10 (by decide)) co_X6_of ml_X6_55 im_X6_of se_X6_of in_X6 rc_X6_of rfl (by decide) (by decide) ⟨by decide, rfl⟩ rfl rfl (Nat.le_of_ble_eq_true rfl) dX6_works_31 ?_
  refine j_top (y := nI x) (by rw [rcu_ne (by decide)]; exact hx) ?_
  refine j_callVv F (k_enters hx10 (by rw [rcu_ne (by decide)]; exact hd) (by omega) hp) co_X6_enters ml_X6_114 im_X6_enters se_X6_enters in_X6 rc_X6_enters rfl (by decide) (by decide) ⟨by decide, rfl⟩ rfl rfl (Nat.le_of_ble_eq_true rfl) dX6_works_34 ?_
  refine j_goto F.1 154 dX6_works_37 (by decide) ?_
  exact j_vret F dX6_works_154 ((rVe rfl))
/-- the second step of working out: w is the cell that comes next -/
def M_work1 (v : rcM) (tp c x w : Nat) : rcM :=
  if v 1 (ix c 0) = 5 ∧ A_ans (v 1) x = 2000000000 then M_end (rcu (rcu v 7 tp 2) 8 tp (nI w)) c tp 2000000000 1 0
  else M_enters (rcu (rcu v 7 tp 2) 8 tp (nI w)) w (tp + 1)
set_option maxHeartbeats 4000000 in
set_option maxRecDepth 100000 in
theorem k_works1 {Y : rcY} {la : Launch} {v : rcM} {tp c x w : Nat} (hc10 : c < 10) (ht10 : tp < 10) (hc : v 5 tp = nI c) (hd : v 0 10 = nI (tp + 1)) (hx : v 1 (ix c 2) = nI x) (hx10 : x < 10) (hk : v 7 tp = 1) (hy : (if v 1 (ix c 0) = 5 ∧ A_ans (v 1) x ≤ 0 then v 1 (ix c 4) else v 1 (ix c 3)) = nI w) (hw10 : w < 10) (hp : ¬ (v 1 (ix c 0) = 5 ∧ A_ans (v 1) x = 2000000000) → mayPush (rcu (rcu v 7 tp 2) 8 tp (nI w)) w (tp + 1)) : rcT shM 13 Y la 3 (yX6_works, cX6_works, 5, none) [.ref (Y.2.1 0), .int (nI tp)] (v) (rV (M_work1 v tp c x w)) := by
  refine rcT.of (by decide +kernel) (Nat.le_of_ble_eq_true rfl) (fun X F hn => ?_)
  refine j_aload_n F.1 dX6_works_0 rfl ?_
  refine j_getr F (k := 6) inX6 rfl (by decide) fl_X6_22 ⟨by decide, rfl⟩ rfl dX6_works_1 ?_
  refine j_iload_n F.1 dX6_works_4 rfl ?_
  refine j_iald F ⟨by decide, rfl⟩ rfl (by omega) (by decide) dX6_works_5 ?_
  refine j_top hc ?_
  refine j_istore_n F.1 dX6_works_6 (by rw [hn]; decide) ?_
  refine j_aload_n F.1 dX6_works_7 rfl ?_
  refine j_getr F (k := 8) inX6 rfl (by decide) fl_X6_28 ⟨by decide, rfl⟩ rfl dX6_works_8 ?_
  refine j_iload_n F.1 dX6_works_11 rfl ?_
  refine j_dup2 F.1 dX6_works_12 rfl rfl ?_
  refine j_iald F ⟨by decide, rfl⟩ rfl (by omega) (by decide) dX6_works_13 ?_
  refine j_iconst F.1 (1) dX6_works_14 (by decide) ?_
  refine j_iadd F.1 dX6_works_15 ?_
  refine j_top (y := 2) (by rw [hk]; rfl) ?_
  refine j_iast F ⟨by decide, rfl⟩ rfl (by omega) (by decide) dX6_works_16 ?_
  refine j_aload_n F.1 dX6_works_17 rfl ?_
  refine j_getr F (k := 8) inX6 rfl (by decide) fl_X6_28 ⟨by decide, rfl⟩ rfl dX6_works_18 ?_
  refine j_iload_n F.1 dX6_works_21 rfl ?_
  refine j_iald F ⟨by decide, rfl⟩ rfl (by omega) (by decide) dX6_works_22 ?_
  refine j_top (y := 2) (by rw [rcu_self]) ?_
  refine j_iconst F.1 (1) dX6_works_23 (by decide) ?_
  refine j_icmp_ne F.1 40 dX6_works_24 (by decide) (fun _ => ?_) (fun h24 => False.elim (by revert h24; decide))
  refine j_aload_n F.1 dX6_works_40 rfl ?_
  refine j_getr F (k := 8) inX6 rfl (by decide) fl_X6_28 ⟨by decide, rfl⟩ rfl dX6_works_41 ?_
  refine j_iload_n F.1 dX6_works_44 rfl ?_
  refine j_iald F ⟨by decide, rfl⟩ rfl (by omega) (by decide) dX6_works_45 ?_
  refine j_top (y := 2) (by rw [rcu_self]) ?_
  refine j_iconst F.1 (2) dX6_works_46 (by decide) ?_
  refine j_icmp_ne F.1 142 dX6_works_47 (by decide) (fun h47 => False.elim (by revert h47; decide)) (fun _ => ?_)
  refine j_aload_n F.1 dX6_works_50 rfl ?_
  refine j_aload_n F.1 dX6_works_51 rfl ?_
  refine j_iload_n F.1 dX6_works_52 rfl ?_
  refine j_iconst F.1 (2) dX6_works_53 (by decide) ?_
  refine j_callVi F (k_of hc10 (by decide)) co_X6_of ml_X6_55 im_X6_of se_X6_of in_X6 rc_X6_of rfl (by decide) (by decide) ⟨by decide, rfl⟩ rfl rfl (Nat.le_of_ble_eq_true rfl) dX6_works_54 ?_
  refine j_top (y := nI x) (by rw [rcu_ne (by decide)]; exact hx) ?_
  refine j_callVi F (k_answerOf hx10) co_X6_answerOf ml_X6_117 im_X6_answerOf se_X6_answerOf in_X6 rc_X6_answerOf rfl (by decide) (by decide) ⟨by decide, rfl⟩ rfl rfl (Nat.le_of_ble_eq_true rfl) dX6_works_57 ?_
  refine j_top (y := A_ans (v 1) x) (by rw [rcu_ne (by decide)]) ?_
  refine j_istore_n F.1 dX6_works_60 (by rw [hn]; decide) ?_
  refine j_aload_n F.1 dX6_works_61 rfl ?_
  refine j_iload_n F.1 dX6_works_62 rfl ?_
  refine j_iconst F.1 (0) dX6_works_63 (by decide) ?_
  refine j_callVi F (k_of hc10 (by decide)) co_X6_of ml_X6_55 im_X6_of se_X6_of in_X6 rc_X6_of rfl (by decide) (by decide) ⟨by decide, rfl⟩ rfl rfl (Nat.le_of_ble_eq_true rfl) dX6_works_64 ?_
  refine j_top (y := v 1 (ix c 0)) (by rw [rcu_ne (by decide)]) ?_
  refine j_iconst F.1 (5) dX6_works_67 (by decide) ?_
  refine j_icmp_ne F.1 75 dX6_works_68 (by decide) (fun h68 => ?_) (fun h68 => ?_)
  · have nt : ¬ (v 1 (ix c 0) = 5 ∧ A_ans (v 1) x = 2000000000) := fun z => h68 z.1
    have hs2 : ¬ (v 1 (ix c 0) = 5 ∧ A_ans (v 1) x ≤ 0) := fun z => h68 z.1
    refine j_iconst F.1 (0) dX6_works_75 (by decide) ?_
    refine j_istore F.1 dX6_works_76 (by rw [hn]; decide) ?_
    refine j_aload_n F.1 dX6_works_78 rfl ?_
    refine j_getr F (k := 9) inX6 rfl (by decide) fl_X6_31 ⟨by decide, rfl⟩ rfl dX6_works_79 ?_
    refine j_iload_n F.1 dX6_works_82 rfl ?_
    refine j_iload F.1 dX6_works_83 rfl ?_
    refine j_if_eq F.1 101 dX6_works_85 (by decide) (fun _ => ?_) (fun h85 => False.elim (by revert h85; decide))
    refine j_aload_n F.1 dX6_works_101 rfl ?_
    refine j_iload_n F.1 dX6_works_102 rfl ?_
    refine j_iconst F.1 (3) dX6_works_103 (by decide) ?_
    refine j_callVi F (k_of hc10 (by decide)) co_X6_of ml_X6_55 im_X6_of se_X6_of in_X6 rc_X6_of rfl (by decide) (by decide) ⟨by decide, rfl⟩ rfl rfl (Nat.le_of_ble_eq_true rfl) dX6_works_104 ?_
    refine j_top (y := nI w) (by rw [← hy, rcu_ne (by decide)]; (first | rw [if_pos hs2] | rw [if_neg hs2])) ?_
    refine j_iast F ⟨by decide, rfl⟩ rfl (by omega) (by decide) dX6_works_107 ?_
    refine j_iload F.1 dX6_works_108 rfl ?_
    refine j_if_eq F.1 129 dX6_works_110 (by decide) (fun _ => ?_) (fun h110 => False.elim (by revert h110; decide))
    refine j_aload_n F.1 dX6_works_129 rfl ?_
    refine j_aload_n F.1 dX6_works_130 rfl ?_
    refine j_getr F (k := 9) inX6 rfl (by decide) fl_X6_31 ⟨by decide, rfl⟩ rfl dX6_works_131 ?_
    refine j_iload_n F.1 dX6_works_134 rfl ?_
    refine j_iald F ⟨by decide, rfl⟩ rfl (by omega) (by decide) dX6_works_135 ?_
    refine j_top (y := nI w) (by rw [rcu_self]) ?_
    refine j_callVv F (k_enters hw10 (by rw [rcu_ne (by decide), rcu_ne (by decide)]; exact hd) (by omega) (hp nt)) co_X6_enters ml_X6_114 im_X6_enters se_X6_enters in_X6 rc_X6_enters rfl (by decide) (by decide) ⟨by decide, rfl⟩ rfl rfl (Nat.le_of_ble_eq_true rfl) dX6_works_136 ?_
    refine j_goto F.1 154 dX6_works_139 (by decide) ?_
    exact j_vret F dX6_works_154 ((rVe (by unfold M_work1; first | rw [if_pos tt] | rw [if_neg nt])))
  · refine j_iconst F.1 (1) dX6_works_71 (by decide) ?_
    refine j_goto F.1 76 dX6_works_72 (by decide) ?_
    refine j_istore F.1 dX6_works_76 (by rw [hn]; decide) ?_
    refine j_aload_n F.1 dX6_works_78 rfl ?_
    refine j_getr F (k := 9) inX6 rfl (by decide) fl_X6_31 ⟨by decide, rfl⟩ rfl dX6_works_79 ?_
    refine j_iload_n F.1 dX6_works_82 rfl ?_
    refine j_iload F.1 dX6_works_83 rfl ?_
    refine j_if_eq F.1 101 dX6_works_85 (by decide) (fun h85 => False.elim (by revert h85; decide)) (fun _ => ?_)
    refine j_iload_n F.1 dX6_works_88 rfl ?_
    refine j_if_gt F.1 101 dX6_works_89 (by decide) (fun h89 => ?_) (fun h89 => ?_)
    · have hs2 : ¬ (v 1 (ix c 0) = 5 ∧ A_ans (v 1) x ≤ 0) := fun z => Int32.not_le.mpr h89 z.2
      refine j_aload_n F.1 dX6_works_101 rfl ?_
      refine j_iload_n F.1 dX6_works_102 rfl ?_
      refine j_iconst F.1 (3) dX6_works_103 (by decide) ?_
      refine j_callVi F (k_of hc10 (by decide)) co_X6_of ml_X6_55 im_X6_of se_X6_of in_X6 rc_X6_of rfl (by decide) (by decide) ⟨by decide, rfl⟩ rfl rfl (Nat.le_of_ble_eq_true rfl) dX6_works_104 ?_
      refine j_top (y := nI w) (by rw [← hy, rcu_ne (by decide)]; (first | rw [if_pos hs2] | rw [if_neg hs2])) ?_
      refine j_iast F ⟨by decide, rfl⟩ rfl (by omega) (by decide) dX6_works_107 ?_
      refine j_iload F.1 dX6_works_108 rfl ?_
      refine j_if_eq F.1 129 dX6_works_110 (by decide) (fun h110 => False.elim (by revert h110; decide)) (fun _ => ?_)
      refine j_iload_n F.1 dX6_works_113 rfl ?_
      refine j_ldc F cn_X6_106 dX6_works_114 ?_
      refine j_icmp_ne F.1 129 dX6_works_116 (by decide) (fun h116 => ?_) (fun h116 => ?_)
      · have nt : ¬ (v 1 (ix c 0) = 5 ∧ A_ans (v 1) x = 2000000000) := fun z => h116 z.2
        refine j_aload_n F.1 dX6_works_129 rfl ?_
        refine j_aload_n F.1 dX6_works_130 rfl ?_
        refine j_getr F (k := 9) inX6 rfl (by decide) fl_X6_31 ⟨by decide, rfl⟩ rfl dX6_works_131 ?_
        refine j_iload_n F.1 dX6_works_134 rfl ?_
        refine j_iald F ⟨by decide, rfl⟩ rfl (by omega) (by decide) dX6_works_135 ?_
        refine j_top (y := nI w) (by rw [rcu_self]) ?_
        refine j_callVv F (k_enters hw10 (by rw [rcu_ne (by decide), rcu_ne (by decide)]; exact hd) (by omega) (hp nt)) co_X6_enters ml_X6_114 im_X6_enters se_X6_enters in_X6 rc_X6_enters rfl (by decide) (by decide) ⟨by decide, rfl⟩ rfl rfl (Nat.le_of_ble_eq_true rfl) dX6_works_136 ?_
        refine j_goto F.1 154 dX6_works_139 (by decide) ?_
        exact j_vret F dX6_works_154 ((rVe (by unfold M_work1; first | rw [if_pos tt] | rw [if_neg nt])))
      · have tt : v 1 (ix c 0) = 5 ∧ A_ans (v 1) x = 2000000000 := ⟨h68, h116⟩
        refine j_aload_n F.1 dX6_works_119 rfl ?_
        refine j_iload_n F.1 dX6_works_120 rfl ?_
        refine j_iconst F.1 (1) dX6_works_121 (by decide) ?_
        refine j_iconst F.1 (-1) dX6_works_122 (by decide) ?_
        refine j_callVv F (k_ends1 hc10 (x := x) (by rw [rcu_ne (by decide), rcu_ne (by decide)]; exact hx) hx10 (by rw [rcu_ne (by decide), rcu_ne (by decide)]; exact hd)) co_X6_ends ml_X6_124 im_X6_ends se_X6_ends in_X6 rc_X6_ends rfl (by decide) (by decide) ⟨by decide, rfl⟩ rfl rfl (Nat.le_of_ble_eq_true rfl) dX6_works_123 ?_
        refine j_goto F.1 139 dX6_works_126 (by decide) ?_
        refine j_goto F.1 154 dX6_works_139 (by decide) ?_
        exact j_vret F dX6_works_154 ((rVe (by unfold M_work1; first | rw [if_pos tt] | rw [if_neg nt])))
    · have hs2 : v 1 (ix c 0) = 5 ∧ A_ans (v 1) x ≤ 0 := And.intro h68 (Int32.not_lt.mp h89)
      refine j_aload_n F.1 dX6_works_92 rfl ?_
      refine j_iload_n F.1 dX6_works_93 rfl ?_
      refine j_iconst F.1 (4) dX6_works_94 (by decide) ?_
      refine j_callVi F (k_of hc10 (by decide)) co_X6_of ml_X6_55 im_X6_of se_X6_of in_X6 rc_X6_of rfl (by decide) (by decide) ⟨by decide, rfl⟩ rfl rfl (Nat.le_of_ble_eq_true rfl) dX6_works_95 ?_
      refine j_goto F.1 107 dX6_works_98 (by decide) ?_
      refine j_top (y := nI w) (by rw [← hy, rcu_ne (by decide)]; (first | rw [if_pos hs2] | rw [if_neg hs2])) ?_
      refine j_iast F ⟨by decide, rfl⟩ rfl (by omega) (by decide) dX6_works_107 ?_
      refine j_iload F.1 dX6_works_108 rfl ?_
      refine j_if_eq F.1 129 dX6_works_110 (by decide) (fun h110 => False.elim (by revert h110; decide)) (fun _ => ?_)
      refine j_iload_n F.1 dX6_works_113 rfl ?_
      refine j_ldc F cn_X6_106 dX6_works_114 ?_
      refine j_icmp_ne F.1 129 dX6_works_116 (by decide) (fun h116 => ?_) (fun h116 => ?_)
      · have nt : ¬ (v 1 (ix c 0) = 5 ∧ A_ans (v 1) x = 2000000000) := fun z => h116 z.2
        refine j_aload_n F.1 dX6_works_129 rfl ?_
        refine j_aload_n F.1 dX6_works_130 rfl ?_
        refine j_getr F (k := 9) inX6 rfl (by decide) fl_X6_31 ⟨by decide, rfl⟩ rfl dX6_works_131 ?_
        refine j_iload_n F.1 dX6_works_134 rfl ?_
        refine j_iald F ⟨by decide, rfl⟩ rfl (by omega) (by decide) dX6_works_135 ?_
        refine j_top (y := nI w) (by rw [rcu_self]) ?_
        refine j_callVv F (k_enters hw10 (by rw [rcu_ne (by decide), rcu_ne (by decide)]; exact hd) (by omega) (hp nt)) co_X6_enters ml_X6_114 im_X6_enters se_X6_enters in_X6 rc_X6_enters rfl (by decide) (by decide) ⟨by decide, rfl⟩ rfl rfl (Nat.le_of_ble_eq_true rfl) dX6_works_136 ?_
        refine j_goto F.1 154 dX6_works_139 (by decide) ?_
        exact j_vret F dX6_works_154 ((rVe (by unfold M_work1; first | rw [if_pos tt] | rw [if_neg nt])))
      · have tt : v 1 (ix c 0) = 5 ∧ A_ans (v 1) x = 2000000000 := ⟨h68, h116⟩
        refine j_aload_n F.1 dX6_works_119 rfl ?_
        refine j_iload_n F.1 dX6_works_120 rfl ?_
        refine j_iconst F.1 (1) dX6_works_121 (by decide) ?_
        refine j_iconst F.1 (-1) dX6_works_122 (by decide) ?_
        refine j_callVv F (k_ends1 hc10 (x := x) (by rw [rcu_ne (by decide), rcu_ne (by decide)]; exact hx) hx10 (by rw [rcu_ne (by decide), rcu_ne (by decide)]; exact hd)) co_X6_ends ml_X6_124 im_X6_ends se_X6_ends in_X6 rc_X6_ends rfl (by decide) (by decide) ⟨by decide, rfl⟩ rfl rfl (Nat.le_of_ble_eq_true rfl) dX6_works_123 ?_
        refine j_goto F.1 139 dX6_works_126 (by decide) ?_
        refine j_goto F.1 154 dX6_works_139 (by decide) ?_
        exact j_vret F dX6_works_154 ((rVe (by unfold M_work1; first | rw [if_pos tt] | rw [if_neg nt])))
set_option maxHeartbeats 4000000 in
set_option maxRecDepth 100000 in
theorem k_works2 {Y : rcY} {la : Launch} {v : rcM} {tp c x y : Nat} (hc10 : c < 10) (ht10 : tp < 10) (hc : v 5 tp = nI c) (hd : v 0 10 = nI (tp + 1)) (hx : v 1 (ix c 2) = nI x) (hx10 : x < 10) (hk : v 7 tp = 2) (hy : v 8 tp = nI y) (hy10 : y < 10) : rcT shM 13 Y la 3 (yX6_works, cX6_works, 5, none) [.ref (Y.2.1 0), .int (nI tp)] (v) (rV (M_end (rcu v 7 tp 3) c tp (A_made (v 1 (ix c 0)) (A_ans (v 1) x) (A_ans (v 1) y)) 2 (nI y))) := by
  refine rcT.of (by decide +kernel) (Nat.le_of_ble_eq_true rfl) (fun X F hn => ?_)
  refine j_aload_n F.1 dX6_works_0 rfl ?_
  refine j_getr F (k := 6) inX6 rfl (by decide) fl_X6_22 ⟨by decide, rfl⟩ rfl dX6_works_1 ?_
  refine j_iload_n F.1 dX6_works_4 rfl ?_
  refine j_iald F ⟨by decide, rfl⟩ rfl (by omega) (by decide) dX6_works_5 ?_
  refine j_top hc ?_
  refine j_istore_n F.1 dX6_works_6 (by rw [hn]; decide) ?_
  refine j_aload_n F.1 dX6_works_7 rfl ?_
  refine j_getr F (k := 8) inX6 rfl (by decide) fl_X6_28 ⟨by decide, rfl⟩ rfl dX6_works_8 ?_
  refine j_iload_n F.1 dX6_works_11 rfl ?_
  refine j_dup2 F.1 dX6_works_12 rfl rfl ?_
  refine j_iald F ⟨by decide, rfl⟩ rfl (by omega) (by decide) dX6_works_13 ?_
  refine j_iconst F.1 (1) dX6_works_14 (by decide) ?_
  refine j_iadd F.1 dX6_works_15 ?_
  refine j_top (y := 3) (by rw [hk]; rfl) ?_
  refine j_iast F ⟨by decide, rfl⟩ rfl (by omega) (by decide) dX6_works_16 ?_
  refine j_aload_n F.1 dX6_works_17 rfl ?_
  refine j_getr F (k := 8) inX6 rfl (by decide) fl_X6_28 ⟨by decide, rfl⟩ rfl dX6_works_18 ?_
  refine j_iload_n F.1 dX6_works_21 rfl ?_
  refine j_iald F ⟨by decide, rfl⟩ rfl (by omega) (by decide) dX6_works_22 ?_
  refine j_top (y := 3) (by rw [rcu_self]) ?_
  refine j_iconst F.1 (1) dX6_works_23 (by decide) ?_
  refine j_icmp_ne F.1 40 dX6_works_24 (by decide) (fun _ => ?_) (fun h24 => False.elim (by revert h24; decide))
  refine j_aload_n F.1 dX6_works_40 rfl ?_
  refine j_getr F (k := 8) inX6 rfl (by decide) fl_X6_28 ⟨by decide, rfl⟩ rfl dX6_works_41 ?_
  refine j_iload_n F.1 dX6_works_44 rfl ?_
  refine j_iald F ⟨by decide, rfl⟩ rfl (by omega) (by decide) dX6_works_45 ?_
  refine j_top (y := 3) (by rw [rcu_self]) ?_
  refine j_iconst F.1 (2) dX6_works_46 (by decide) ?_
  refine j_icmp_ne F.1 142 dX6_works_47 (by decide) (fun _ => ?_) (fun h47 => False.elim (by revert h47; decide))
  refine j_aload_n F.1 dX6_works_142 rfl ?_
  refine j_iload_n F.1 dX6_works_143 rfl ?_
  refine j_iconst F.1 (2) dX6_works_144 (by decide) ?_
  refine j_aload_n F.1 dX6_works_145 rfl ?_
  refine j_getr F (k := 9) inX6 rfl (by decide) fl_X6_31 ⟨by decide, rfl⟩ rfl dX6_works_146 ?_
  refine j_iload_n F.1 dX6_works_149 rfl ?_
  refine j_iald F ⟨by decide, rfl⟩ rfl (by omega) (by decide) dX6_works_150 ?_
  refine j_top (y := nI y) (by rw [rcu_ne (by decide)]; exact hy) ?_
  refine j_callVv F (k_ends2 hy10 hc10 (x := x) (by rw [rcu_ne (by decide)]; exact hx) hx10 (by rw [rcu_ne (by decide)]; exact hd)) co_X6_ends ml_X6_124 im_X6_ends se_X6_ends in_X6 rc_X6_ends rfl (by decide) (by decide) ⟨by decide, rfl⟩ rfl rfl (Nat.le_of_ble_eq_true rfl) dX6_works_151 ?_
  exact j_vret F dX6_works_154 ((rVe (by rw [rcu_ne (show (1 : Nat) ≠ 7 by decide)])))
