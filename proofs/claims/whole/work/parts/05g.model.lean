/-! The reference: would, count, undo. -/
theorem as_wd {f : Nat → Int32} {i : Nat} {x : Int32} (w : WD f) : WD (A_as f i x) := by
  intro k hk
  unfold A_as
  by_cases e : k = i
  · subst e
    rw [pk_un (ix_j (by decide)), pk_us]
    exact ⟨⟨0, by decide, rfl⟩, fun z => absurd rfl z⟩
  · have q : ∀ j, j < 15 → upd (upd f (ix i 0) 0) (ix i 1) x (ix k j) = f (ix k j) := fun j hj => by rw [pk_un (ix_o e hj (by decide)), pk_un (ix_o e hj (by decide))]
    rw [q 0 (by decide), q 2 (by decide), q 3 (by decide), q 4 (by decide)]
    exact w k hk
set_option maxHeartbeats 4000000 in
set_option maxRecDepth 100000 in
theorem k_would {Y : rcY} {la : Launch} {v : rcM} {c x a : Int32} {n : Nat} (hn3 : v 0 3 = nI n) (hw : WD (v 1)) : rcT shM 13 Y la 5 (yX6_would, cX6_would, 5, (some .int)) [.ref (Y.2.1 0), .int c, .int x, .int a] (v) (KQ v (S_no (S_would (v 1) c x a) (v 1) (v 3) n)) := by
  refine rcT.of (by decide +kernel) (Nat.le_of_ble_eq_true rfl) (fun X F hn => ?_)
  refine j_iload_n F.1 dX6_would_0 rfl ?_
  refine j_callSi F (k_isCell) co_X6_isCell ml_X6_69 st_X6_isCell in_X6 rc_X6_isCell rfl (by decide) (by decide) rfl (Nat.le_of_ble_eq_true rfl) dX6_would_1 ?_
  refine j_if_eq F.1 21 dX6_would_4 (by decide) (fun h4 => ?_) (fun h4 => ?_)
  · rw [b2_0] at h4
    refine j_ldc F cn_X6_50 dX6_would_21 ?_
    exact j_iret F dX6_would_23 ((by unfold S_would; rw [if_neg (fun z => by first | exact h4 z.1 | exact h11 z.2.1 | exact h18 z.2.2)]; exact FrA.rf.KQ hn3))
  · rw [b2_0, Classical.not_not] at h4
    obtain ⟨i, hi, rfl⟩ := cell_of h4
    refine j_iload_n F.1 dX6_would_7 rfl ?_
    refine j_callSi F (k_isValue) co_X6_isValue ml_X6_73 st_X6_isValue in_X6 rc_X6_isValue rfl (by decide) (by decide) rfl (Nat.le_of_ble_eq_true rfl) dX6_would_8 ?_
    refine j_if_eq F.1 21 dX6_would_11 (by decide) (fun h11 => ?_) (fun h11 => ?_)
    · rw [b2_0] at h11
      refine j_ldc F cn_X6_50 dX6_would_21 ?_
      exact j_iret F dX6_would_23 ((by unfold S_would; rw [if_neg (fun z => by first | exact h4 z.1 | exact h11 z.2.1 | exact h18 z.2.2)]; exact FrA.rf.KQ hn3))
    · rw [b2_0, Classical.not_not] at h11
      refine j_iload_n F.1 dX6_would_14 rfl ?_
      refine j_callSi F (k_isCell) co_X6_isCell ml_X6_69 st_X6_isCell in_X6 rc_X6_isCell rfl (by decide) (by decide) rfl (Nat.le_of_ble_eq_true rfl) dX6_would_15 ?_
      refine j_if_ne F.1 24 dX6_would_18 (by decide) (fun h18 => ?_) (fun h18 => ?_)
      · rw [b2_0, Classical.not_not] at h18
        obtain ⟨j, hj, rfl⟩ := cell_of h18
        refine j_aload_n F.1 dX6_would_24 rfl ?_
        refine j_callVv F (k_begins) co_X6_begins ml_X6_76 im_X6_begins se_X6_begins in_X6 rc_X6_begins rfl (by decide) (by decide) ⟨by decide, rfl⟩ rfl rfl (Nat.le_of_ble_eq_true rfl) dX6_would_25 ?_
        refine j_aload_n F.1 dX6_would_28 rfl ?_
        refine j_iload_n F.1 dX6_would_29 rfl ?_
        refine j_iconst F.1 (0) dX6_would_30 (by decide) ?_
        refine j_iconst F.1 (0) dX6_would_31 (by decide) ?_
        refine j_callVv F (k_puts (by assumption) (by decide)) co_X6_puts ml_X6_63 im_X6_puts se_X6_puts in_X6 rc_X6_puts rfl (by decide) (by decide) ⟨by decide, rfl⟩ rfl rfl (Nat.le_of_ble_eq_true rfl) dX6_would_32 ?_
        refine j_aload_n F.1 dX6_would_35 rfl ?_
        refine j_iload_n F.1 dX6_would_36 rfl ?_
        refine j_iconst F.1 (1) dX6_would_37 (by decide) ?_
        refine j_iload_n F.1 dX6_would_38 rfl ?_
        refine j_callVv F (k_puts (by assumption) (by decide)) co_X6_puts ml_X6_63 im_X6_puts se_X6_puts in_X6 rc_X6_puts rfl (by decide) (by decide) ⟨by decide, rfl⟩ rfl rfl (Nat.le_of_ble_eq_true rfl) dX6_would_39 ?_
        rw [rcr_rcr, rcr_s, rcr_n (a := 2) (b := 1) (by decide)]
        refine j_aload_n F.1 dX6_would_42 rfl ?_
        refine j_iload_n F.1 dX6_would_43 rfl ?_
        refine j_callV F (k_told hj (by rw [rcr_s]; exact as_wd hw)) co_X6_told ml_X6_163 im_X6_told se_X6_told in_X6 rc_X6_told rfl (by decide) (by decide) ⟨by decide, rfl⟩ rfl rfl (Nat.le_of_ble_eq_true rfl) dX6_would_44 (fun r u hr => ?_)
        obtain ⟨rfl, fr⟩ := hr
        refine j_tl ?_
        rw [rcr_s]
        have u2 : ∀ k, k < 158 → u 2 k = v 1 k := fun k hk => by rw [fr.1 2 (by decide) (by decide) (by decide) (by decide) (by decide), rcr_n (by decide), rcr_s, cp_lt hk]
        have u3 : u 3 = v 3 := by rw [fr.1 3 (by decide) (by decide) (by decide) (by decide) (by decide), rcr_n (by decide), rcr_n (by decide)]
        have u4 : u 4 = v 4 := by rw [fr.1 4 (by decide) (by decide) (by decide) (by decide) (by decide), rcr_n (by decide), rcr_n (by decide)]
        have un : u 0 3 = nI n := by rw [fr.2 3 (by decide), rcr_n (by decide), rcr_n (by decide)]; exact hn3
        have u5 : u 0 5 = v 0 5 := by rw [fr.2 5 (by decide), rcr_n (by decide), rcr_n (by decide)]
        refine j_istore F.1 dX6_would_47 (by rw [hn]; decide) ?_
        refine j_aload_n F.1 dX6_would_49 rfl ?_
        refine j_callVv F (k_returns) co_X6_returns ml_X6_143 im_X6_returns se_X6_returns in_X6 rc_X6_returns rfl (by decide) (by decide) ⟨by decide, rfl⟩ rfl rfl (Nat.le_of_ble_eq_true rfl) dX6_would_50 ?_
        refine j_row (v 1) (fun k hk => by rw [rcr_s, cp_lt hk]; exact (u2 k hk).symm) ?_
        rw [rcr_rcr]
        refine j_iload F.1 dX6_would_53 rfl ?_
        exact j_iret F dX6_would_55 ((by unfold S_would; rw [if_pos ⟨nI_in9 hi, h11, nI_in9 hj⟩, cN_nI hi, cN_nI hj]; exact KM_no rcr_s (by rw [rcr_n (by decide)]; exact u3) (by rw [rcr_n (by decide)]; exact un) (by rw [rcr_n (by decide)]; exact u4) (by rw [rcr_n (by decide)]; exact u5)))
      · rw [b2_0] at h18
        refine j_ldc F cn_X6_50 dX6_would_21 ?_
        exact j_iret F dX6_would_23 ((by unfold S_would; rw [if_neg (fun z => by first | exact h4 z.1 | exact h11 z.2.1 | exact h18 z.2.2)]; exact FrA.rf.KQ hn3))
def S_count (f : Nat → Int32) (n : Nat) (ln w : Int32) : Int32 := if w = 0 then f 0 else if w = 1 then remI f 10 else if w = 2 then f 1 else if w = 3 then f 2 else if w = 4 then f 3 else if w = 5 then f 4 else if w = 6 then f 5 else if w = 7 then f 6 else if w = 8 then nI n else if w = 9 then ln else -2000000001
set_option maxHeartbeats 4000000 in
set_option maxRecDepth 100000 in
theorem k_count {Y : rcY} {la : Launch} {v : rcM} {w : Int32} {n : Nat} (hn3 : v 0 3 = nI n) : rcT shM 13 Y la 2 (yX6_count, cX6_count, 2, (some .int)) [.ref (Y.2.1 0), .int w] (v) (KQ v (S_no (S_count (v 1) n (v 0 5) w) (v 1) (v 3) n)) := by
  refine rcT.of (by decide +kernel) (Nat.le_of_ble_eq_true rfl) (fun X F hn => ?_)
  refine j_iload_n F.1 dX6_count_0 rfl ?_
  by_cases h1_0 : w = 0
  · refine j_tableIn F.1 56 dX6_count_1 (by rw [h1_0]; decide) (by rw [h1_0]; decide) (by rw [h1_0]; rfl) (by decide) ?_
    have hres : S_count (v 1) n (v 0 5) w = v 1 0 := by unfold S_count; rw [if_pos h1_0]
    refine j_aload_n F.1 dX6_count_56 rfl ?_
    refine j_getr F (k := 0) inX6 rfl (by decide) fl_X6_7 ⟨by decide, rfl⟩ rfl dX6_count_57 ?_
    refine j_iconst F.1 (0) dX6_count_60 (by decide) ?_
    refine j_iald F ⟨by decide, rfl⟩ rfl (by decide) (by decide) dX6_count_61 ?_
    exact j_iret F dX6_count_62 ((by rw [hres]; exact FrA.rf.KQ hn3))
  by_cases h1_1 : w = 1
  · refine j_tableIn F.1 63 dX6_count_1 (by rw [h1_1]; decide) (by rw [h1_1]; decide) (by rw [h1_1]; rfl) (by decide) ?_
    have hres : S_count (v 1) n (v 0 5) w = remI (v 1) 10 := by unfold S_count; rw [if_neg h1_0, if_pos h1_1]
    refine j_aload_n F.1 dX6_count_63 rfl ?_
    refine j_callVi F (k_remembered) co_X6_remembered ml_X6_133 im_X6_remembered se_X6_remembered in_X6 rc_X6_remembered rfl (by decide) (by decide) ⟨by decide, rfl⟩ rfl rfl (Nat.le_of_ble_eq_true rfl) dX6_count_64 ?_
    exact j_iret F dX6_count_67 ((by rw [hres]; exact FrA.rf.KQ hn3))
  by_cases h1_2 : w = 2
  · refine j_tableIn F.1 68 dX6_count_1 (by rw [h1_2]; decide) (by rw [h1_2]; decide) (by rw [h1_2]; rfl) (by decide) ?_
    have hj : 1 + w - 2 = nI 1 := by rw [h1_2]; rfl
    have hres : S_count (v 1) n (v 0 5) w = v 1 1 := by unfold S_count; rw [if_neg h1_0, if_neg h1_1, if_pos h1_2]
    refine j_aload_n F.1 dX6_count_68 rfl ?_
    refine j_getr F (k := 0) inX6 rfl (by decide) fl_X6_7 ⟨by decide, rfl⟩ rfl dX6_count_69 ?_
    refine j_iconst F.1 (1) dX6_count_72 (by decide) ?_
    refine j_iload_n F.1 dX6_count_73 rfl ?_
    refine j_iadd F.1 dX6_count_74 ?_
    refine j_iconst F.1 (2) dX6_count_75 (by decide) ?_
    refine j_isub F.1 dX6_count_76 ?_
    refine j_iald F ⟨by decide, rfl⟩ hj (by decide) (by decide) dX6_count_77 ?_
    exact j_iret F dX6_count_78 ((by rw [hres]; exact FrA.rf.KQ hn3))
  by_cases h1_3 : w = 3
  · refine j_tableIn F.1 68 dX6_count_1 (by rw [h1_3]; decide) (by rw [h1_3]; decide) (by rw [h1_3]; rfl) (by decide) ?_
    have hj : 1 + w - 2 = nI 2 := by rw [h1_3]; rfl
    have hres : S_count (v 1) n (v 0 5) w = v 1 2 := by unfold S_count; rw [if_neg h1_0, if_neg h1_1, if_neg h1_2, if_pos h1_3]
    refine j_aload_n F.1 dX6_count_68 rfl ?_
    refine j_getr F (k := 0) inX6 rfl (by decide) fl_X6_7 ⟨by decide, rfl⟩ rfl dX6_count_69 ?_
    refine j_iconst F.1 (1) dX6_count_72 (by decide) ?_
    refine j_iload_n F.1 dX6_count_73 rfl ?_
    refine j_iadd F.1 dX6_count_74 ?_
    refine j_iconst F.1 (2) dX6_count_75 (by decide) ?_
    refine j_isub F.1 dX6_count_76 ?_
    refine j_iald F ⟨by decide, rfl⟩ hj (by decide) (by decide) dX6_count_77 ?_
    exact j_iret F dX6_count_78 ((by rw [hres]; exact FrA.rf.KQ hn3))
  by_cases h1_4 : w = 4
  · refine j_tableIn F.1 68 dX6_count_1 (by rw [h1_4]; decide) (by rw [h1_4]; decide) (by rw [h1_4]; rfl) (by decide) ?_
    have hj : 1 + w - 2 = nI 3 := by rw [h1_4]; rfl
    have hres : S_count (v 1) n (v 0 5) w = v 1 3 := by unfold S_count; rw [if_neg h1_0, if_neg h1_1, if_neg h1_2, if_neg h1_3, if_pos h1_4]
    refine j_aload_n F.1 dX6_count_68 rfl ?_
    refine j_getr F (k := 0) inX6 rfl (by decide) fl_X6_7 ⟨by decide, rfl⟩ rfl dX6_count_69 ?_
    refine j_iconst F.1 (1) dX6_count_72 (by decide) ?_
    refine j_iload_n F.1 dX6_count_73 rfl ?_
    refine j_iadd F.1 dX6_count_74 ?_
    refine j_iconst F.1 (2) dX6_count_75 (by decide) ?_
    refine j_isub F.1 dX6_count_76 ?_
    refine j_iald F ⟨by decide, rfl⟩ hj (by decide) (by decide) dX6_count_77 ?_
    exact j_iret F dX6_count_78 ((by rw [hres]; exact FrA.rf.KQ hn3))
  by_cases h1_5 : w = 5
  · refine j_tableIn F.1 68 dX6_count_1 (by rw [h1_5]; decide) (by rw [h1_5]; decide) (by rw [h1_5]; rfl) (by decide) ?_
    have hj : 1 + w - 2 = nI 4 := by rw [h1_5]; rfl
    have hres : S_count (v 1) n (v 0 5) w = v 1 4 := by unfold S_count; rw [if_neg h1_0, if_neg h1_1, if_neg h1_2, if_neg h1_3, if_neg h1_4, if_pos h1_5]
    refine j_aload_n F.1 dX6_count_68 rfl ?_
    refine j_getr F (k := 0) inX6 rfl (by decide) fl_X6_7 ⟨by decide, rfl⟩ rfl dX6_count_69 ?_
    refine j_iconst F.1 (1) dX6_count_72 (by decide) ?_
    refine j_iload_n F.1 dX6_count_73 rfl ?_
    refine j_iadd F.1 dX6_count_74 ?_
    refine j_iconst F.1 (2) dX6_count_75 (by decide) ?_
    refine j_isub F.1 dX6_count_76 ?_
    refine j_iald F ⟨by decide, rfl⟩ hj (by decide) (by decide) dX6_count_77 ?_
    exact j_iret F dX6_count_78 ((by rw [hres]; exact FrA.rf.KQ hn3))
  by_cases h1_6 : w = 6
  · refine j_tableIn F.1 68 dX6_count_1 (by rw [h1_6]; decide) (by rw [h1_6]; decide) (by rw [h1_6]; rfl) (by decide) ?_
    have hj : 1 + w - 2 = nI 5 := by rw [h1_6]; rfl
    have hres : S_count (v 1) n (v 0 5) w = v 1 5 := by unfold S_count; rw [if_neg h1_0, if_neg h1_1, if_neg h1_2, if_neg h1_3, if_neg h1_4, if_neg h1_5, if_pos h1_6]
    refine j_aload_n F.1 dX6_count_68 rfl ?_
    refine j_getr F (k := 0) inX6 rfl (by decide) fl_X6_7 ⟨by decide, rfl⟩ rfl dX6_count_69 ?_
    refine j_iconst F.1 (1) dX6_count_72 (by decide) ?_
    refine j_iload_n F.1 dX6_count_73 rfl ?_
    refine j_iadd F.1 dX6_count_74 ?_
    refine j_iconst F.1 (2) dX6_count_75 (by decide) ?_
    refine j_isub F.1 dX6_count_76 ?_
    refine j_iald F ⟨by decide, rfl⟩ hj (by decide) (by decide) dX6_count_77 ?_
    exact j_iret F dX6_count_78 ((by rw [hres]; exact FrA.rf.KQ hn3))
  by_cases h1_7 : w = 7
  · refine j_tableIn F.1 68 dX6_count_1 (by rw [h1_7]; decide) (by rw [h1_7]; decide) (by rw [h1_7]; rfl) (by decide) ?_
    have hj : 1 + w - 2 = nI 6 := by rw [h1_7]; rfl
    have hres : S_count (v 1) n (v 0 5) w = v 1 6 := by unfold S_count; rw [if_neg h1_0, if_neg h1_1, if_neg h1_2, if_neg h1_3, if_neg h1_4, if_neg h1_5, if_neg h1_6, if_pos h1_7]
    refine j_aload_n F.1 dX6_count_68 rfl ?_
    refine j_getr F (k := 0) inX6 rfl (by decide) fl_X6_7 ⟨by decide, rfl⟩ rfl dX6_count_69 ?_
    refine j_iconst F.1 (1) dX6_count_72 (by decide) ?_
    refine j_iload_n F.1 dX6_count_73 rfl ?_
    refine j_iadd F.1 dX6_count_74 ?_
    refine j_iconst F.1 (2) dX6_count_75 (by decide) ?_
    refine j_isub F.1 dX6_count_76 ?_
    refine j_iald F ⟨by decide, rfl⟩ hj (by decide) (by decide) dX6_count_77 ?_
    exact j_iret F dX6_count_78 ((by rw [hres]; exact FrA.rf.KQ hn3))
  by_cases h1_8 : w = 8
  · refine j_tableIn F.1 79 dX6_count_1 (by rw [h1_8]; decide) (by rw [h1_8]; decide) (by rw [h1_8]; rfl) (by decide) ?_
    have hres : S_count (v 1) n (v 0 5) w = v 0 3 := by unfold S_count; rw [if_neg h1_0, if_neg h1_1, if_neg h1_2, if_neg h1_3, if_neg h1_4, if_neg h1_5, if_neg h1_6, if_neg h1_7, if_pos h1_8, hn3]
    refine j_aload_n F.1 dX6_count_79 rfl ?_
    refine j_geti F (k := 3) inX6 rfl (by decide) fl_X6_51 ⟨by decide, rfl⟩ rfl dX6_count_80 ?_
    exact j_iret F dX6_count_83 ((by rw [hres]; exact FrA.rf.KQ hn3))
  by_cases h1_9 : w = 9
  · refine j_tableIn F.1 84 dX6_count_1 (by rw [h1_9]; decide) (by rw [h1_9]; decide) (by rw [h1_9]; rfl) (by decide) ?_
    have hres : S_count (v 1) n (v 0 5) w = v 0 5 := by unfold S_count; rw [if_neg h1_0, if_neg h1_1, if_neg h1_2, if_neg h1_3, if_neg h1_4, if_neg h1_5, if_neg h1_6, if_neg h1_7, if_neg h1_8, if_pos h1_9]
    refine j_aload_n F.1 dX6_count_84 rfl ?_
    refine j_geti F (k := 5) inX6 rfl (by decide) fl_X6_170 ⟨by decide, rfl⟩ rfl dX6_count_85 ?_
    exact j_iret F dX6_count_88 ((by rw [hres]; exact FrA.rf.KQ hn3))
  refine j_tableOut F.1 89 dX6_count_1 (by have a0 : (w).toInt ≠ 0 := fun z => h1_0 (Int32.toInt_inj.mp (by rw [z]; rfl)); have a1 : (w).toInt ≠ 1 := fun z => h1_1 (Int32.toInt_inj.mp (by rw [z]; rfl)); have a2 : (w).toInt ≠ 2 := fun z => h1_2 (Int32.toInt_inj.mp (by rw [z]; rfl)); have a3 : (w).toInt ≠ 3 := fun z => h1_3 (Int32.toInt_inj.mp (by rw [z]; rfl)); have a4 : (w).toInt ≠ 4 := fun z => h1_4 (Int32.toInt_inj.mp (by rw [z]; rfl)); have a5 : (w).toInt ≠ 5 := fun z => h1_5 (Int32.toInt_inj.mp (by rw [z]; rfl)); have a6 : (w).toInt ≠ 6 := fun z => h1_6 (Int32.toInt_inj.mp (by rw [z]; rfl)); have a7 : (w).toInt ≠ 7 := fun z => h1_7 (Int32.toInt_inj.mp (by rw [z]; rfl)); have a8 : (w).toInt ≠ 8 := fun z => h1_8 (Int32.toInt_inj.mp (by rw [z]; rfl)); have a9 : (w).toInt ≠ 9 := fun z => h1_9 (Int32.toInt_inj.mp (by rw [z]; rfl)); omega) (by decide) ?_
  have hres : S_count (v 1) n (v 0 5) w = -2000000001 := by unfold S_count; rw [if_neg h1_0, if_neg h1_1, if_neg h1_2, if_neg h1_3, if_neg h1_4, if_neg h1_5, if_neg h1_6, if_neg h1_7, if_neg h1_8, if_neg h1_9]
  refine j_ldc F cn_X6_50 dX6_count_89 ?_
  exact j_iret F dX6_count_91 ((by rw [hres]; exact FrA.rf.KQ hn3))
def S_undo (f p : Nat → Int32) (n : Nat) : rcS := if n = 0 then S_no (-2000000002) f p n else (nI (n - 1), fun k => p (158 * (n - 1) + k), p, n - 1)
theorem und_K {v : rcM} {m : Nat} : KQ v (S_undo (v 1) (v 3) (m + 1)) (some (.int (rcr (rcu v 0 3 (nI m)) 1 (fun k => v 3 (158 * m + k)) 0 3))) (rcr (rcu v 0 3 (nI m)) 1 (fun k => v 3 (158 * m + k))) := by
  unfold S_undo
  rw [if_neg (Nat.succ_ne_zero m)]
  refine ⟨?_, rcr_s, ?_, ?_, ?_, ?_⟩
  · rw [rcr_n (by decide), rcu_self]; rfl
  · rw [rcr_n (by decide), rcu_ne (by decide)]
  · rw [rcr_n (by decide), rcu_self]; rfl
  · rw [rcr_n (by decide), rcu_ne (by decide)]
  · rw [rcr_n (by decide), rcu_k (by decide)]
set_option maxHeartbeats 4000000 in
set_option maxRecDepth 100000 in
theorem k_undo {Y : rcY} {la : Launch} {v : rcM} {n : Nat} (hn4 : n ≤ 4) (hn3 : v 0 3 = nI n) : rcT shM 13 Y la 0 (yX6_undo, cX6_undo, 2, (some .int)) [.ref (Y.2.1 0)] (v) (KQ v (S_undo (v 1) (v 3) n)) := by
  refine rcT.of (by decide +kernel) (Nat.le_of_ble_eq_true rfl) (fun X F hn => ?_)
  cases n with
  | zero =>
    refine j_aload_n F.1 dX6_undo_0 rfl ?_
    refine j_geti F (k := 3) inX6 rfl (by decide) fl_X6_51 ⟨by decide, rfl⟩ rfl dX6_undo_1 ?_
    refine j_top (y := 0) hn3 ?_
    refine j_if_ne F.1 10 dX6_undo_4 (by decide) (fun h4 => False.elim (by revert h4; decide)) (fun _ => ?_)
    refine j_ldc F cn_X6_146 dX6_undo_7 ?_
    exact j_iret F dX6_undo_9 ((FrA.rf.KQ hn3))
  | succ m =>
    have loop : ∀ r t : Nat, t ≤ 158 → 158 < t + r → rcJ shM 13 Y X (KQ v (S_undo (v 1) (v 3) (m + 1))) 22 [(1, .int (nI (t))), (0, .ref (Y.2.1 0))] [] (rcr (rcu v 0 3 (nI m)) 1 (cp (t) (fun k => v 3 (158 * m + k)) (v 1))) := by
      intro r
      induction r with
      | zero => intro t ht hr; omega
      | succ r ih =>
        intro t ht hr
        refine j_iload_n F.1 dX6_undo_22 rfl ?_
        refine j_sipush F.1 (158) dX6_undo_23 (by decide) ?_
        refine j_icmp_ge F.1 56 dX6_undo_26 (by decide) (fun h26 => ?_) (fun h26 => ?_)
        · have q26 : 158 ≤ t := (nI_leI (a := 158) (b := t) (by omega) (by omega)).mp h26
          rw [Nat.le_antisymm ht q26]
          refine j_row (fun k => v 3 (158 * m + k)) (fun k hk => by rw [rcr_s, cp_lt hk]) ?_
          rw [rcr_rcr]
          refine j_aload_n F.1 dX6_undo_56 rfl ?_
          refine j_geti F (k := 3) inX6 rfl (by decide) fl_X6_51 ⟨by decide, rfl⟩ rfl dX6_undo_57 ?_
          exact j_iret F dX6_undo_60 ((und_K))
        · have q26 : t < 158 := Nat.lt_of_not_le (fun z => h26 ((nI_leI (a := 158) (b := t) (by omega) (by omega)).mpr z))
          refine j_aload_n F.1 dX6_undo_29 rfl ?_
          refine j_getr F (k := 0) inX6 rfl (by decide) fl_X6_7 ⟨by decide, rfl⟩ rfl dX6_undo_30 ?_
          refine j_iload_n F.1 dX6_undo_33 rfl ?_
          refine j_aload_n F.1 dX6_undo_34 rfl ?_
          refine j_getr F (k := 2) inX6 rfl (by decide) fl_X6_16 ⟨by decide, rfl⟩ rfl dX6_undo_35 ?_
          refine j_sipush F.1 (158) dX6_undo_38 (by decide) ?_
          refine j_aload_n F.1 dX6_undo_41 rfl ?_
          refine j_geti F (k := 3) inX6 rfl (by decide) fl_X6_51 ⟨by decide, rfl⟩ rfl dX6_undo_42 ?_
          refine j_imul F.1 dX6_undo_45 ?_
          refine j_iload_n F.1 dX6_undo_46 rfl ?_
          refine j_iadd F.1 dX6_undo_47 ?_
          refine j_iald F ⟨by decide, rfl⟩ (by rw [show (158 : Int32) = nI 158 from rfl, rcr_n (by decide), rcu_self, pk_mul, nI_add]) (by omega) (by decide) dX6_undo_48 ?_
          refine j_iast F ⟨by decide, rfl⟩ rfl (by omega) (by decide) dX6_undo_49 ?_
          refine j_iinc F.1 (1) dX6_undo_50 (by decide) rfl (by rw [hn]; decide) ?_
          refine j_goto F.1 22 dX6_undo_53 (by decide) ?_
          refine j_loc [(1, .int (nI (t + 1))), (0, .ref (Y.2.1 0))] (by rw [← nI_1]; rfl) ?_
          rw [rcu_r, rcr_rcr, rcr_s, rcr_n (a := 1) (b := 3) (by decide), rcu_ne (a := 0) (b := 3) (by decide), show upd (cp t (fun k => v 3 (158 * m + k)) (v 1)) t (v 3 (158 * m + t)) = cp (t + 1) (fun k => v 3 (158 * m + k)) (v 1) from cp_s (f := fun k => v 3 (158 * m + k))]
          exact ih (t + 1) (by omega) (by omega)
    refine j_aload_n F.1 dX6_undo_0 rfl ?_
    refine j_geti F (k := 3) inX6 rfl (by decide) fl_X6_51 ⟨by decide, rfl⟩ rfl dX6_undo_1 ?_
    refine j_top hn3 ?_
    refine j_if_ne F.1 10 dX6_undo_4 (by decide) (fun h4 => ?_) (fun h4 => ?_)
    · refine j_aload_n F.1 dX6_undo_10 rfl ?_
      refine j_dup F.1 dX6_undo_11 rfl ?_
      refine j_geti F (k := 3) inX6 rfl (by decide) fl_X6_51 ⟨by decide, rfl⟩ rfl dX6_undo_12 ?_
      refine j_iconst F.1 (1) dX6_undo_15 (by decide) ?_
      refine j_isub F.1 dX6_undo_16 ?_
      refine j_top (y := nI m) (by rw [hn3, nI_pred]) ?_
      refine j_puti F (k := 3) inX6 tyX6_ok nmX6 rfl (by decide) fl_X6_51 rfl rfl ⟨by decide, rfl⟩ rfl dX6_undo_17 ?_
      refine j_iconst F.1 (0) dX6_undo_20 (by decide) ?_
      refine j_istore_n F.1 dX6_undo_21 (by rw [hn]; decide) ?_
      refine j_loc [(1, .int (nI (0))), (0, .ref (Y.2.1 0))] rfl ?_
      have e := loop 159 0 (by omega) (by omega)
      rw [cp_0, show rcr (rcu v 0 3 (nI m)) 1 (v 1) = rcu v 0 3 (nI m) from by rw [show v 1 = rcu v 0 3 (nI m) 1 from (rcu_ne (by decide)).symm]; exact rcr_self] at e
      exact e
    · exact absurd h4 (nI_ne0 (Nat.succ_pos m) (by omega))
