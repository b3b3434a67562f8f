/-! The reference: what is asked afresh; counts; undo. -/
noncomputable def toldF (f : Nat → Int32) (c : Nat) : Int32 := match EV f c with
  | none => -2000000002
  | some q => if q.1 = 2000000000 then -2000000003 else q.1
def KT (v : rcM) (a : Int32) : Option Value → rcM → Prop := fun r u => r = some (.int a) ∧ FrA v u
theorem FrA.KQ {v u : rcM} {a : Int32} {n : Nat} (fr : FrA v u) (hn : v 0 3 = nI n) : KQ v (S_no a (v 1) (v 3) n) (some (.int a)) u :=
  KM_no (fr.1 1 (by decide) (by decide) (by decide) (by decide) (by decide)) (fr.1 3 (by decide) (by decide) (by decide) (by decide) (by decide)) (by rw [fr.2 3 (by decide)]; exact hn) (fr.1 4 (by decide) (by decide) (by decide) (by decide) (by decide)) (fr.2 5 (by decide))
theorem FrA.row {v u : rcM} (fr : FrA v u) : u 1 = v 1 := fr.1 1 (by decide) (by decide) (by decide) (by decide) (by decide)
set_option maxHeartbeats 4000000 in
set_option maxRecDepth 100000 in
theorem k_told {Y : rcY} {la : Launch} {v : rcM} {c0 : Nat} (hc0 : c0 < 10) (hw : WD (v 1)) : rcT shM 13 Y la 4 (yX6_told, cX6_told, 2, (some .int)) [.ref (Y.2.1 0), .int (nI c0)] (v) (KT v (toldF (v 1) c0)) := by
  refine rcT.of (by decide +kernel) (Nat.le_of_ble_eq_true rfl) (fun X F hn => ?_)
  refine j_aload_n F.1 dX6_told_0 rfl ?_
  refine j_iload_n F.1 dX6_told_1 rfl ?_
  refine j_callV F (k_afresh hc0 hw) co_X6_afresh ml_X6_159 im_X6_afresh se_X6_afresh in_X6 rc_X6_afresh rfl (by decide) (by decide) ⟨by decide, rfl⟩ rfl rfl (Nat.le_of_ble_eq_true rfl) dX6_told_2 (fun r u hr => ?_)
  obtain ⟨fr, hr⟩ := hr
  cases ea : EV (v 1) c0 with
  | none =>
    rw [ea] at hr
    subst hr
    refine j_tl ?_
    refine j_if_ne F.1 13 dX6_told_5 (by decide) (fun h5 => False.elim (by revert h5; decide)) (fun _ => ?_)
    refine j_ldc F cn_X6_146 dX6_told_8 ?_
    refine j_goto F.1 35 dX6_told_10 (by decide) ?_
    
    exact j_iret F dX6_told_35 ((by unfold toldF KT; rw [ea]; exact ⟨rfl, fr⟩))
  | some q =>
    rw [ea] at hr
    obtain ⟨rfl, h10, h11⟩ := hr
    refine j_tl ?_
    refine j_if_ne F.1 13 dX6_told_5 (by decide) (fun _ => ?_) (fun h5 => False.elim (by revert h5; decide))
    refine j_aload_n F.1 dX6_told_13 rfl ?_
    refine j_getr F (k := 13) inX6 rfl (by decide) fl_X6_37 ⟨by decide, rfl⟩ rfl dX6_told_14 ?_
    refine j_iload_n F.1 dX6_told_17 rfl ?_
    refine j_iald F ⟨by decide, rfl⟩ rfl (by omega) (by decide) dX6_told_18 ?_
    refine j_top (y := q.1) h10 ?_
    refine j_ldc F cn_X6_106 dX6_told_19 ?_
    refine j_icmp_ne F.1 29 dX6_told_21 (by decide) (fun h21 => ?_) (fun h21 => ?_)
    · refine j_aload_n F.1 dX6_told_29 rfl ?_
      refine j_getr F (k := 13) inX6 rfl (by decide) fl_X6_37 ⟨by decide, rfl⟩ rfl dX6_told_30 ?_
      refine j_iload_n F.1 dX6_told_33 rfl ?_
      refine j_iald F ⟨by decide, rfl⟩ rfl (by omega) (by decide) dX6_told_34 ?_
      
      exact j_iret F dX6_told_35 ((by unfold toldF KT; rw [ea]; dsimp only; first | (rw [if_pos h21]; exact ⟨rfl, fr⟩) | (rw [if_neg h21, h10]; exact ⟨rfl, fr⟩)))
    · refine j_ldc F cn_X6_162 dX6_told_24 ?_
      refine j_goto F.1 35 dX6_told_26 (by decide) ?_
      
      exact j_iret F dX6_told_35 ((by unfold toldF KT; rw [ea]; dsimp only; first | (rw [if_pos h21]; exact ⟨rfl, fr⟩) | (rw [if_neg h21, h10]; exact ⟨rfl, fr⟩)))
noncomputable def S_fresh (f : Nat → Int32) (c : Int32) : Int32 := if 0 ≤ c ∧ c ≤ 9 then toldF f (cN c) else -2000000001
noncomputable def one (f : Nat → Int32) (c : Nat) (w : Int32) : Int32 :=
  if w = 0 then b2 (0 < f (ix c 0)) else if w = 1 then b2 (f (ix c 6) = 1) else if w = 2 then b2 (f (ix c 6) = 1 ∧ f (ix c 9) = f 0)
  else if w = 3 then (match EV f c with | none => 1 | some _ => 0) else (match EV f c with | none => 0 | some q => b2 (q.1 = 2000000000))
noncomputable def whF (f : Nat → Int32) (w : Int32) : Nat → Int32
  | 0 => 0
  | k + 1 => whF f w k ||| (if one f k w = 0 then 0 else bitI (nI k))
noncomputable def S_which (f : Nat → Int32) (w : Int32) : Int32 := if 0 ≤ w ∧ w ≤ 4 then whF f w 10 else -2000000001
noncomputable def S_used (f : Nat → Int32) (c : Int32) : Int32 := if 0 ≤ c ∧ c ≤ 9 then (match EV f (cN c) with | none => -2000000002 | some q => q.2) else -2000000001
noncomputable def ubb (f : Nat → Int32) (c : Int32) (k : Nat) : Int32 := match EV f k with
  | none => 0
  | some q => if (q.2 >>> (c &&& 31)) &&& 1 = 1 then bitI (nI k) else 0
noncomputable def ubF (f : Nat → Int32) (c : Int32) : Nat → Int32
  | 0 => 0
  | k + 1 => ubF f c k ||| ubb f c k
noncomputable def S_usedBy (f : Nat → Int32) (c : Int32) : Int32 := if 0 ≤ c ∧ c ≤ 9 then ubF f c 10 else -2000000001
/-- the row in which a cell is a value for once -/
def A_as (f : Nat → Int32) (i : Nat) (x : Int32) : Nat → Int32 := upd (upd f (ix i 0) 0) (ix i 1) x
noncomputable def S_would (f : Nat → Int32) (c x a : Int32) : Int32 := if (0 ≤ c ∧ c ≤ 9) ∧ (-99999 ≤ x ∧ x ≤ 99999) ∧ (0 ≤ a ∧ a ≤ 9) then toldF (A_as f (cN c) x) (cN a) else -2000000001
set_option maxHeartbeats 4000000 in
set_option maxRecDepth 100000 in
theorem k_fresh {Y : rcY} {la : Launch} {v : rcM} {c : Int32} {n : Nat} (hn3 : v 0 3 = nI n) (hw : WD (v 1)) : rcT shM 13 Y la 5 (yX6_fresh, cX6_fresh, 2, (some .int)) [.ref (Y.2.1 0), .int c] (v) (KQ v (S_no (S_fresh (v 1) c) (v 1) (v 3) n)) := by
  refine rcT.of (by decide +kernel) (Nat.le_of_ble_eq_true rfl) (fun X F hn => ?_)
  refine j_iload_n F.1 dX6_fresh_0 rfl ?_
  refine j_callSi F (k_isCell) co_X6_isCell ml_X6_69 st_X6_isCell in_X6 rc_X6_isCell rfl (by decide) (by decide) rfl (Nat.le_of_ble_eq_true rfl) dX6_fresh_1 ?_
  refine j_if_eq F.1 15 dX6_fresh_4 (by decide) (fun h4 => ?_) (fun h4 => ?_)
  · rw [b2_0] at h4
    refine j_ldc F cn_X6_50 dX6_fresh_15 ?_
    exact j_iret F dX6_fresh_17 ((by unfold S_fresh; rw [if_neg h4]; exact FrA.rf.KQ hn3))
  · rw [b2_0, Classical.not_not] at h4
    obtain ⟨i, hi, rfl⟩ := cell_of h4
    refine j_aload_n F.1 dX6_fresh_7 rfl ?_
    refine j_iload_n F.1 dX6_fresh_8 rfl ?_
    refine j_callV F (k_told hi hw) co_X6_told ml_X6_163 im_X6_told se_X6_told in_X6 rc_X6_told rfl (by decide) (by decide) ⟨by decide, rfl⟩ rfl rfl (Nat.le_of_ble_eq_true rfl) dX6_fresh_9 (fun r u hr => ?_)
    obtain ⟨rfl, fr⟩ := hr
    refine j_tl ?_
    refine j_goto F.1 17 dX6_fresh_12 (by decide) ?_
    exact j_iret F dX6_fresh_17 ((by unfold S_fresh; rw [if_pos (nI_in9 hi), cN_nI hi]; exact fr.KQ hn3))
set_option maxHeartbeats 4000000 in
set_option maxRecDepth 100000 in
theorem k_isOne {Y : rcY} {la : Launch} {v : rcM} {c0 : Nat} {what : Int32} (hc0 : c0 < 10) (hw : WD (v 1)) : rcT shM 13 Y la 4 (yX6_isOne, cX6_isOne, 3, (some .boolean)) [.ref (Y.2.1 0), .int (nI c0), .int what] (v) (KT v (one (v 1) c0 what)) := by
  refine rcT.of (by decide +kernel) (Nat.le_of_ble_eq_true rfl) (fun X F hn => ?_)
  refine j_iload_n F.1 dX6_isOne_0 rfl ?_
  by_cases h1_0 : what = 0
  · refine j_tableIn F.1 32 dX6_isOne_1 (by rw [h1_0]; decide) (by rw [h1_0]; decide) (by rw [h1_0]; rfl) (by decide) ?_
    refine j_aload_n F.1 dX6_isOne_32 rfl ?_
    refine j_iload_n F.1 dX6_isOne_33 rfl ?_
    refine j_iconst F.1 (0) dX6_isOne_34 (by decide) ?_
    refine j_callVi F (k_of hc0 (by decide)) co_X6_of ml_X6_55 im_X6_of se_X6_of in_X6 rc_X6_of rfl (by decide) (by decide) ⟨by decide, rfl⟩ rfl rfl (Nat.le_of_ble_eq_true rfl) dX6_isOne_35 ?_
    refine j_if_le F.1 45 dX6_isOne_38 (by decide) (fun h38 => ?_) (fun h38 => ?_)
    · refine j_iconst F.1 (0) dX6_isOne_45 (by decide) ?_
      exact j_zret F (by first | exact Or.inl rfl | exact Or.inr rfl | exact b2_01 _) dX6_isOne_46 ((by unfold one KT; rw [if_pos h1_0]; first | (rw [b2_f (Int32.not_lt.mpr h38)]; exact ⟨rfl, FrA.rf⟩) | (rw [b2_t (Int32.not_le.mp h38)]; exact ⟨rfl, FrA.rf⟩)))
    · refine j_iconst F.1 (1) dX6_isOne_41 (by decide) ?_
      refine j_goto F.1 46 dX6_isOne_42 (by decide) ?_
      exact j_zret F (by first | exact Or.inl rfl | exact Or.inr rfl | exact b2_01 _) dX6_isOne_46 ((by unfold one KT; rw [if_pos h1_0]; first | (rw [b2_f (Int32.not_lt.mpr h38)]; exact ⟨rfl, FrA.rf⟩) | (rw [b2_t (Int32.not_le.mp h38)]; exact ⟨rfl, FrA.rf⟩)))
  by_cases h1_1 : what = 1
  · refine j_tableIn F.1 47 dX6_isOne_1 (by rw [h1_1]; decide) (by rw [h1_1]; decide) (by rw [h1_1]; rfl) (by decide) ?_
    refine j_aload_n F.1 dX6_isOne_47 rfl ?_
    refine j_iload_n F.1 dX6_isOne_48 rfl ?_
    refine j_bipush F.1 (6) dX6_isOne_49 (by decide) ?_
    refine j_callVi F (k_of hc0 (by decide)) co_X6_of ml_X6_55 im_X6_of se_X6_of in_X6 rc_X6_of rfl (by decide) (by decide) ⟨by decide, rfl⟩ rfl rfl (Nat.le_of_ble_eq_true rfl) dX6_isOne_51 ?_
    refine j_iconst F.1 (1) dX6_isOne_54 (by decide) ?_
    refine j_icmp_ne F.1 62 dX6_isOne_55 (by decide) (fun h55 => ?_) (fun h55 => ?_)
    · refine j_iconst F.1 (0) dX6_isOne_62 (by decide) ?_
      exact j_zret F (by first | exact Or.inl rfl | exact Or.inr rfl | exact b2_01 _) dX6_isOne_63 ((by unfold one KT; rw [if_neg h1_0, if_pos h1_1]; first | (rw [b2_f h55]; exact ⟨rfl, FrA.rf⟩) | (rw [b2_t h55]; exact ⟨rfl, FrA.rf⟩)))
    · refine j_iconst F.1 (1) dX6_isOne_58 (by decide) ?_
      refine j_goto F.1 63 dX6_isOne_59 (by decide) ?_
      exact j_zret F (by first | exact Or.inl rfl | exact Or.inr rfl | exact b2_01 _) dX6_isOne_63 ((by unfold one KT; rw [if_neg h1_0, if_pos h1_1]; first | (rw [b2_f h55]; exact ⟨rfl, FrA.rf⟩) | (rw [b2_t h55]; exact ⟨rfl, FrA.rf⟩)))
  by_cases h1_2 : what = 2
  · refine j_tableIn F.1 64 dX6_isOne_1 (by rw [h1_2]; decide) (by rw [h1_2]; decide) (by rw [h1_2]; rfl) (by decide) ?_
    refine j_aload_n F.1 dX6_isOne_64 rfl ?_
    refine j_iload_n F.1 dX6_isOne_65 rfl ?_
    refine j_bipush F.1 (6) dX6_isOne_66 (by decide) ?_
    refine j_callVi F (k_of hc0 (by decide)) co_X6_of ml_X6_55 im_X6_of se_X6_of in_X6 rc_X6_of rfl (by decide) (by decide) ⟨by decide, rfl⟩ rfl rfl (Nat.le_of_ble_eq_true rfl) dX6_isOne_68 ?_
    refine j_iconst F.1 (1) dX6_isOne_71 (by decide) ?_
    refine j_icmp_ne F.1 95 dX6_isOne_72 (by decide) (fun h72 => ?_) (fun h72 => ?_)
    · have hs : ¬ (v 1 (ix c0 6) = 1 ∧ v 1 (ix c0 9) = v 1 0) := fun q => h72 q.1
      refine j_iconst F.1 (0) dX6_isOne_95 (by decide) ?_
      exact j_zret F (by first | exact Or.inl rfl | exact Or.inr rfl | exact b2_01 _) dX6_isOne_96 ((by unfold one KT; rw [if_neg h1_0, if_neg h1_1, if_pos h1_2]; first | (rw [b2_f hs]; exact ⟨rfl, FrA.rf⟩) | (rw [b2_t hs]; exact ⟨rfl, FrA.rf⟩)))
    · refine j_aload_n F.1 dX6_isOne_75 rfl ?_
      refine j_iload_n F.1 dX6_isOne_76 rfl ?_
      refine j_bipush F.1 (9) dX6_isOne_77 (by decide) ?_
      refine j_callVi F (k_of hc0 (by decide)) co_X6_of ml_X6_55 im_X6_of se_X6_of in_X6 rc_X6_of rfl (by decide) (by decide) ⟨by decide, rfl⟩ rfl rfl (Nat.le_of_ble_eq_true rfl) dX6_isOne_79 ?_
      refine j_aload_n F.1 dX6_isOne_82 rfl ?_
      refine j_getr F (k := 0) inX6 rfl (by decide) fl_X6_7 ⟨by decide, rfl⟩ rfl dX6_isOne_83 ?_
      refine j_iconst F.1 (0) dX6_isOne_86 (by decide) ?_
      refine j_iald F ⟨by decide, rfl⟩ rfl (by decide) (by decide) dX6_isOne_87 ?_
      refine j_icmp_ne F.1 95 dX6_isOne_88 (by decide) (fun h88 => ?_) (fun h88 => ?_)
      · have hs : ¬ (v 1 (ix c0 6) = 1 ∧ v 1 (ix c0 9) = v 1 0) := fun q => h88 q.2
        refine j_iconst F.1 (0) dX6_isOne_95 (by decide) ?_
        exact j_zret F (by first | exact Or.inl rfl | exact Or.inr rfl | exact b2_01 _) dX6_isOne_96 ((by unfold one KT; rw [if_neg h1_0, if_neg h1_1, if_pos h1_2]; first | (rw [b2_f hs]; exact ⟨rfl, FrA.rf⟩) | (rw [b2_t hs]; exact ⟨rfl, FrA.rf⟩)))
      · have hs : v 1 (ix c0 6) = 1 ∧ v 1 (ix c0 9) = v 1 0 := ⟨h72, h88⟩
        refine j_iconst F.1 (1) dX6_isOne_91 (by decide) ?_
        refine j_goto F.1 96 dX6_isOne_92 (by decide) ?_
        exact j_zret F (by first | exact Or.inl rfl | exact Or.inr rfl | exact b2_01 _) dX6_isOne_96 ((by unfold one KT; rw [if_neg h1_0, if_neg h1_1, if_pos h1_2]; first | (rw [b2_f hs]; exact ⟨rfl, FrA.rf⟩) | (rw [b2_t hs]; exact ⟨rfl, FrA.rf⟩)))
  by_cases h1_3 : what = 3
  · refine j_tableIn F.1 97 dX6_isOne_1 (by rw [h1_3]; decide) (by rw [h1_3]; decide) (by rw [h1_3]; rfl) (by decide) ?_
    refine j_aload_n F.1 dX6_isOne_97 rfl ?_
    refine j_iload_n F.1 dX6_isOne_98 rfl ?_
    refine j_callV F (k_afresh hc0 hw) co_X6_afresh ml_X6_159 im_X6_afresh se_X6_afresh in_X6 rc_X6_afresh rfl (by decide) (by decide) ⟨by decide, rfl⟩ rfl rfl (Nat.le_of_ble_eq_true rfl) dX6_isOne_99 (fun r u hr => ?_)
    obtain ⟨fr, hr⟩ := hr
    cases ea : EV (v 1) c0 with
    | none =>
      rw [ea] at hr
      subst hr
      refine j_tl ?_
      refine j_if_ne F.1 109 dX6_isOne_102 (by decide) (fun h102 => False.elim (by revert h102; decide)) (fun _ => ?_)
      refine j_iconst F.1 (1) dX6_isOne_105 (by decide) ?_
      refine j_goto F.1 110 dX6_isOne_106 (by decide) ?_
      exact j_zret F (by first | exact Or.inl rfl | exact Or.inr rfl | exact b2_01 _) dX6_isOne_110 ((by unfold one KT; rw [if_neg h1_0, if_neg h1_1, if_neg h1_2, if_pos h1_3, ea]; exact ⟨rfl, fr⟩))
    | some q =>
      rw [ea] at hr
      obtain ⟨rfl, h10, h11⟩ := hr
      refine j_tl ?_
      refine j_if_ne F.1 109 dX6_isOne_102 (by decide) (fun _ => ?_) (fun h102 => False.elim (by revert h102; decide))
      refine j_iconst F.1 (0) dX6_isOne_109 (by decide) ?_
      exact j_zret F (by first | exact Or.inl rfl | exact Or.inr rfl | exact b2_01 _) dX6_isOne_110 ((by unfold one KT; rw [if_neg h1_0, if_neg h1_1, if_neg h1_2, if_pos h1_3, ea]; exact ⟨rfl, fr⟩))
  refine j_tableOut F.1 111 dX6_isOne_1 (by have a0 : (what).toInt ≠ 0 := fun z => h1_0 (Int32.toInt_inj.mp (by rw [z]; rfl)); have a1 : (what).toInt ≠ 1 := fun z => h1_1 (Int32.toInt_inj.mp (by rw [z]; rfl)); have a2 : (what).toInt ≠ 2 := fun z => h1_2 (Int32.toInt_inj.mp (by rw [z]; rfl)); have a3 : (what).toInt ≠ 3 := fun z => h1_3 (Int32.toInt_inj.mp (by rw [z]; rfl)); omega) (by decide) ?_
  refine j_aload_n F.1 dX6_isOne_111 rfl ?_
  refine j_iload_n F.1 dX6_isOne_112 rfl ?_
  refine j_callV F (k_afresh hc0 hw) co_X6_afresh ml_X6_159 im_X6_afresh se_X6_afresh in_X6 rc_X6_afresh rfl (by decide) (by decide) ⟨by decide, rfl⟩ rfl rfl (Nat.le_of_ble_eq_true rfl) dX6_isOne_113 (fun r u hr => ?_)
  obtain ⟨fr, hr⟩ := hr
  cases ea : EV (v 1) c0 with
  | none =>
    rw [ea] at hr
    subst hr
    refine j_tl ?_
    refine j_if_eq F.1 134 dX6_isOne_116 (by decide) (fun _ => ?_) (fun h116 => False.elim (by revert h116; decide))
    refine j_iconst F.1 (0) dX6_isOne_134 (by decide) ?_
    exact j_zret F (by first | exact Or.inl rfl | exact Or.inr rfl | exact b2_01 _) dX6_isOne_135 ((by unfold one KT; rw [if_neg h1_0, if_neg h1_1, if_neg h1_2, if_neg h1_3, ea]; exact ⟨rfl, fr⟩))
  | some q =>
    rw [ea] at hr
    obtain ⟨rfl, h10, h11⟩ := hr
    refine j_tl ?_
    refine j_if_eq F.1 134 dX6_isOne_116 (by decide) (fun h116 => False.elim (by revert h116; decide)) (fun _ => ?_)
    refine j_aload_n F.1 dX6_isOne_119 rfl ?_
    refine j_getr F (k := 13) inX6 rfl (by decide) fl_X6_37 ⟨by decide, rfl⟩ rfl dX6_isOne_120 ?_
    refine j_iload_n F.1 dX6_isOne_123 rfl ?_
    refine j_iald F ⟨by decide, rfl⟩ rfl (by omega) (by decide) dX6_isOne_124 ?_
    refine j_top (y := q.1) h10 ?_
    refine j_ldc F cn_X6_106 dX6_isOne_125 ?_
    refine j_icmp_ne F.1 134 dX6_isOne_127 (by decide) (fun h127 => ?_) (fun h127 => ?_)
    · refine j_iconst F.1 (0) dX6_isOne_134 (by decide) ?_
      exact j_zret F (by first | exact Or.inl rfl | exact Or.inr rfl | exact b2_01 _) dX6_isOne_135 ((by unfold one KT; rw [if_neg h1_0, if_neg h1_1, if_neg h1_2, if_neg h1_3, ea]; dsimp only; first | (rw [b2_f h127]; exact ⟨rfl, fr⟩) | (rw [b2_t h127]; exact ⟨rfl, fr⟩)))
    · refine j_iconst F.1 (1) dX6_isOne_130 (by decide) ?_
      refine j_goto F.1 135 dX6_isOne_131 (by decide) ?_
      exact j_zret F (by first | exact Or.inl rfl | exact Or.inr rfl | exact b2_01 _) dX6_isOne_135 ((by unfold one KT; rw [if_neg h1_0, if_neg h1_1, if_neg h1_2, if_neg h1_3, ea]; dsimp only; first | (rw [b2_f h127]; exact ⟨rfl, fr⟩) | (rw [b2_t h127]; exact ⟨rfl, fr⟩)))
set_option maxHeartbeats 4000000 in
set_option maxRecDepth 100000 in
theorem k_which {Y : rcY} {la : Launch} {v : rcM} {what : Int32} {n : Nat} (hn3 : v 0 3 = nI n) (hw : WD (v 1)) : rcT shM 13 Y la 5 (yX6_which, cX6_which, 4, (some .int)) [.ref (Y.2.1 0), .int what] (v) (KQ v (S_no (S_which (v 1) what) (v 1) (v 3) n)) := by
  refine rcT.of (by decide +kernel) (Nat.le_of_ble_eq_true rfl) (fun X F hn => ?_)
  have loop : 0 ≤ what ∧ what ≤ 4 → ∀ r t : Nat, t ≤ 10 → 10 < t + r → (∀ w, FrA v w → rcJ shM 13 Y X (KQ v (S_no (S_which (v 1) what) (v 1) (v 3) n)) 16 [(3, .int (nI (t))), (2, .int (whF (v 1) what (t))), (0, .ref (Y.2.1 0)), (1, .int what)] [] w) := by
    intro h6 r
    induction r with
    | zero => intro t ht hr; omega
    | succ r ih =>
      intro t ht hr w frw
      refine j_iload_n F.1 dX6_which_16 rfl ?_
      refine j_bipush F.1 (10) dX6_which_17 (by decide) ?_
      refine j_icmp_ge F.1 47 dX6_which_19 (by decide) (fun h19 => ?_) (fun h19 => ?_)
      · have q19 : 10 ≤ t := (nI_leI (a := 10) (b := t) (by omega) (by omega)).mp h19
        refine j_iload_n F.1 dX6_which_47 rfl ?_
        exact j_iret F dX6_which_48 ((by rw [Nat.le_antisymm ht q19]; unfold S_which; rw [if_pos h6]; exact frw.KQ hn3))
      · have q19 : t < 10 := Nat.lt_of_not_le (fun z => h19 ((nI_leI (a := 10) (b := t) (by omega) (by omega)).mpr z))
        refine j_iload_n F.1 dX6_which_22 rfl ?_
        refine j_aload_n F.1 dX6_which_23 rfl ?_
        refine j_iload_n F.1 dX6_which_24 rfl ?_
        refine j_iload_n F.1 dX6_which_25 rfl ?_
        refine j_callV F (k_isOne (by omega) (by rw [frw.row]; exact hw)) co_X6_isOne ml_X6_166 im_X6_isOne se_X6_isOne in_X6 rc_X6_isOne rfl (by decide) (by decide) ⟨by decide, rfl⟩ rfl rfl (Nat.le_of_ble_eq_true rfl) dX6_which_26 (fun r u hr => ?_)
        obtain ⟨rfl, fr⟩ := hr
        rw [frw.row]
        refine j_tl ?_
        refine j_if_eq F.1 38 dX6_which_29 (by decide) (fun h29 => ?_) (fun h29 => ?_)
        · have ho : one (v 1) t what = 0 := h29
          refine j_iconst F.1 (0) dX6_which_38 (by decide) ?_
          refine j_ior F.1 dX6_which_39 ?_
          refine j_top (y := whF (v 1) what (t + 1)) (by first | exact congrArg (fun z => whF (v 1) what t ||| z) (if_pos ho).symm | exact congrArg (fun z => whF (v 1) what t ||| z) (if_neg ho).symm) ?_
          refine j_istore_n F.1 dX6_which_40 (by rw [hn]; decide) ?_
          refine j_iinc F.1 (1) dX6_which_41 (by decide) rfl (by rw [hn]; decide) ?_
          refine j_goto F.1 16 dX6_which_44 (by decide) ?_
          refine j_loc [(3, .int (nI (t + 1))), (2, .int (whF (v 1) what (t + 1))), (0, .ref (Y.2.1 0)), (1, .int what)] (by rw [← nI_1]; rfl) ?_
          exact ih (t + 1) (by omega) (by omega) u (frw.tr fr)
        · have ho : ¬ one (v 1) t what = 0 := h29
          refine j_iconst F.1 (1) dX6_which_32 (by decide) ?_
          refine j_iload_n F.1 dX6_which_33 rfl ?_
          refine j_ishl F.1 dX6_which_34 ?_
          refine j_goto F.1 39 dX6_which_35 (by decide) ?_
          refine j_ior F.1 dX6_which_39 ?_
          refine j_top (y := whF (v 1) what (t + 1)) (by first | exact congrArg (fun z => whF (v 1) what t ||| z) (if_pos ho).symm | exact congrArg (fun z => whF (v 1) what t ||| z) (if_neg ho).symm) ?_
          refine j_istore_n F.1 dX6_which_40 (by rw [hn]; decide) ?_
          refine j_iinc F.1 (1) dX6_which_41 (by decide) rfl (by rw [hn]; decide) ?_
          refine j_goto F.1 16 dX6_which_44 (by decide) ?_
          refine j_loc [(3, .int (nI (t + 1))), (2, .int (whF (v 1) what (t + 1))), (0, .ref (Y.2.1 0)), (1, .int what)] (by rw [← nI_1]; rfl) ?_
          exact ih (t + 1) (by omega) (by omega) u (frw.tr fr)
  refine j_iload_n F.1 dX6_which_0 rfl ?_
  refine j_iconst F.1 (0) dX6_which_1 (by decide) ?_
  refine j_iconst F.1 (4) dX6_which_2 (by decide) ?_
  refine j_callSi F (k_in) co_X6_in ml_X6_46 st_X6_in in_X6 rc_X6_in rfl (by decide) (by decide) rfl (Nat.le_of_ble_eq_true rfl) dX6_which_3 ?_
  refine j_if_ne F.1 12 dX6_which_6 (by decide) (fun h6 => ?_) (fun h6 => ?_)
  · rw [b2_0, Classical.not_not] at h6
    refine j_iconst F.1 (0) dX6_which_12 (by decide) ?_
    refine j_istore_n F.1 dX6_which_13 (by rw [hn]; decide) ?_
    refine j_iconst F.1 (0) dX6_which_14 (by decide) ?_
    refine j_istore_n F.1 dX6_which_15 (by rw [hn]; decide) ?_
    refine j_loc [(3, .int (nI (0))), (2, .int (whF (v 1) what (0))), (0, .ref (Y.2.1 0)), (1, .int what)] rfl ?_
    exact loop h6 11 0 (by omega) (by omega) v FrA.rf
  · rw [b2_0] at h6
    refine j_ldc F cn_X6_50 dX6_which_9 ?_
    exact j_iret F dX6_which_11 ((by unfold S_which; rw [if_neg h6]; exact FrA.rf.KQ hn3))
set_option maxHeartbeats 4000000 in
set_option maxRecDepth 100000 in
theorem k_used {Y : rcY} {la : Launch} {v : rcM} {c : Int32} {n : Nat} (hn3 : v 0 3 = nI n) (hw : WD (v 1)) : rcT shM 13 Y la 4 (yX6_used, cX6_used, 2, (some .int)) [.ref (Y.2.1 0), .int c] (v) (KQ v (S_no (S_used (v 1) c) (v 1) (v 3) n)) := by
  refine rcT.of (by decide +kernel) (Nat.le_of_ble_eq_true rfl) (fun X F hn => ?_)
  refine j_iload_n F.1 dX6_used_0 rfl ?_
  refine j_callSi F (k_isCell) co_X6_isCell ml_X6_69 st_X6_isCell in_X6 rc_X6_isCell rfl (by decide) (by decide) rfl (Nat.le_of_ble_eq_true rfl) dX6_used_1 ?_
  refine j_if_ne F.1 10 dX6_used_4 (by decide) (fun h4 => ?_) (fun h4 => ?_)
  · rw [b2_0, Classical.not_not] at h4
    obtain ⟨i, hi, rfl⟩ := cell_of h4
    refine j_aload_n F.1 dX6_used_10 rfl ?_
    refine j_iload_n F.1 dX6_used_11 rfl ?_
    refine j_callV F (k_afresh hi hw) co_X6_afresh ml_X6_159 im_X6_afresh se_X6_afresh in_X6 rc_X6_afresh rfl (by decide) (by decide) ⟨by decide, rfl⟩ rfl rfl (Nat.le_of_ble_eq_true rfl) dX6_used_12 (fun r u hr => ?_)
    obtain ⟨fr, hr⟩ := hr
    cases ea : EV (v 1) i with
    | none =>
      rw [ea] at hr
      subst hr
      refine j_tl ?_
      refine j_if_eq F.1 27 dX6_used_15 (by decide) (fun _ => ?_) (fun h15 => False.elim (by revert h15; decide))
      refine j_ldc F cn_X6_146 dX6_used_27 ?_
      exact j_iret F dX6_used_29 ((by unfold S_used; rw [if_pos (nI_in9 hi), cN_nI hi, ea]; exact fr.KQ hn3))
    | some q =>
      rw [ea] at hr
      obtain ⟨rfl, h10, h11⟩ := hr
      refine j_tl ?_
      refine j_if_eq F.1 27 dX6_used_15 (by decide) (fun h15 => False.elim (by revert h15; decide)) (fun _ => ?_)
      refine j_aload_n F.1 dX6_used_18 rfl ?_
      refine j_getr F (k := 14) inX6 rfl (by decide) fl_X6_40 ⟨by decide, rfl⟩ rfl dX6_used_19 ?_
      refine j_iload_n F.1 dX6_used_22 rfl ?_
      refine j_iald F ⟨by decide, rfl⟩ rfl (by omega) (by decide) dX6_used_23 ?_
      refine j_top (y := q.2) h11 ?_
      refine j_goto F.1 29 dX6_used_24 (by decide) ?_
      exact j_iret F dX6_used_29 ((by unfold S_used; rw [if_pos (nI_in9 hi), cN_nI hi, ea]; exact fr.KQ hn3))
  · rw [b2_0] at h4
    refine j_ldc F cn_X6_50 dX6_used_7 ?_
    exact j_iret F dX6_used_9 ((by unfold S_used; rw [if_neg h4]; exact FrA.rf.KQ hn3))
set_option maxHeartbeats 4000000 in
set_option maxRecDepth 100000 in
theorem k_usedBy {Y : rcY} {la : Launch} {v : rcM} {c : Int32} {n : Nat} (hn3 : v 0 3 = nI n) (hw : WD (v 1)) : rcT shM 13 Y la 4 (yX6_usedBy, cX6_usedBy, 4, (some .int)) [.ref (Y.2.1 0), .int c] (v) (KQ v (S_no (S_usedBy (v 1) c) (v 1) (v 3) n)) := by
  refine rcT.of (by decide +kernel) (Nat.le_of_ble_eq_true rfl) (fun X F hn => ?_)
  have loop : 0 ≤ c ∧ c ≤ 9 → ∀ r t : Nat, t ≤ 10 → 10 < t + r → (∀ w, FrA v w → rcJ shM 13 Y X (KQ v (S_no (S_usedBy (v 1) c) (v 1) (v 3) n)) 14 [(3, .int (nI (t))), (2, .int (ubF (v 1) c (t))), (0, .ref (Y.2.1 0)), (1, .int c)] [] w) := by
    intro h4 r
    induction r with
    | zero => intro t ht hr; omega
    | succ r ih =>
      intro t ht hr w frw
      refine j_iload_n F.1 dX6_usedBy_14 rfl ?_
      refine j_bipush F.1 (10) dX6_usedBy_15 (by decide) ?_
      refine j_icmp_ge F.1 58 dX6_usedBy_17 (by decide) (fun h17 => ?_) (fun h17 => ?_)
      · have q17 : 10 ≤ t := (nI_leI (a := 10) (b := t) (by omega) (by omega)).mp h17
        refine j_iload_n F.1 dX6_usedBy_58 rfl ?_
        exact j_iret F dX6_usedBy_59 ((by rw [Nat.le_antisymm ht q17]; unfold S_usedBy; rw [if_pos h4]; exact frw.KQ hn3))
      · have q17 : t < 10 := Nat.lt_of_not_le (fun z => h17 ((nI_leI (a := 10) (b := t) (by omega) (by omega)).mpr z))
        refine j_iload_n F.1 dX6_usedBy_20 rfl ?_
        refine j_aload_n F.1 dX6_usedBy_21 rfl ?_
        refine j_iload_n F.1 dX6_usedBy_22 rfl ?_
        refine j_callV F (k_afresh (by omega) (by rw [frw.row]; exact hw)) co_X6_afresh ml_X6_159 im_X6_afresh se_X6_afresh in_X6 rc_X6_afresh rfl (by decide) (by decide) ⟨by decide, rfl⟩ rfl rfl (Nat.le_of_ble_eq_true rfl) dX6_usedBy_23 (fun r u hr => ?_)
        obtain ⟨fr, hr⟩ := hr
        rw [frw.row] at hr
        cases ea : EV (v 1) t with
        | none =>
          rw [ea] at hr
          subst hr
          refine j_tl ?_
          have ho : ubb (v 1) c t = 0 := by unfold ubb; rw [ea]
          refine j_if_eq F.1 49 dX6_usedBy_26 (by decide) (fun _ => ?_) (fun h26 => False.elim (by revert h26; decide))
          refine j_iconst F.1 (0) dX6_usedBy_49 (by decide) ?_
          refine j_ior F.1 dX6_usedBy_50 ?_
          refine j_top (y := ubF (v 1) c (t + 1)) (congrArg (fun z => ubF (v 1) c t ||| z) ho.symm) ?_
          refine j_istore_n F.1 dX6_usedBy_51 (by rw [hn]; decide) ?_
          refine j_iinc F.1 (1) dX6_usedBy_52 (by decide) rfl (by rw [hn]; decide) ?_
          refine j_goto F.1 14 dX6_usedBy_55 (by decide) ?_
          refine j_loc [(3, .int (nI (t + 1))), (2, .int (ubF (v 1) c (t + 1))), (0, .ref (Y.2.1 0)), (1, .int c)] (by rw [← nI_1]; rfl) ?_
          exact ih (t + 1) (by omega) (by omega) u (frw.tr fr)
        | some q =>
          rw [ea] at hr
          obtain ⟨rfl, h10, h11⟩ := hr
          refine j_tl ?_
          refine j_if_eq F.1 49 dX6_usedBy_26 (by decide) (fun h26 => False.elim (by revert h26; decide)) (fun _ => ?_)
          refine j_aload_n F.1 dX6_usedBy_29 rfl ?_
          refine j_getr F (k := 14) inX6 rfl (by decide) fl_X6_40 ⟨by decide, rfl⟩ rfl dX6_usedBy_30 ?_
          refine j_iload_n F.1 dX6_usedBy_33 rfl ?_
          refine j_iald F ⟨by decide, rfl⟩ rfl (by omega) (by decide) dX6_usedBy_34 ?_
          refine j_top (y := q.2) h11 ?_
          refine j_iload_n F.1 dX6_usedBy_35 rfl ?_
          refine j_ishr F.1 dX6_usedBy_36 ?_
          refine j_iconst F.1 (1) dX6_usedBy_37 (by decide) ?_
          refine j_iand F.1 dX6_usedBy_38 ?_
          refine j_iconst F.1 (1) dX6_usedBy_39 (by decide) ?_
          refine j_icmp_ne F.1 49 dX6_usedBy_40 (by decide) (fun h40 => ?_) (fun h40 => ?_)
          · have ho : ubb (v 1) c t = 0 := by unfold ubb; rw [ea]; exact if_neg h40
            refine j_iconst F.1 (0) dX6_usedBy_49 (by decide) ?_
            refine j_ior F.1 dX6_usedBy_50 ?_
            refine j_top (y := ubF (v 1) c (t + 1)) (congrArg (fun z => ubF (v 1) c t ||| z) ho.symm) ?_
            refine j_istore_n F.1 dX6_usedBy_51 (by rw [hn]; decide) ?_
            refine j_iinc F.1 (1) dX6_usedBy_52 (by decide) rfl (by rw [hn]; decide) ?_
            refine j_goto F.1 14 dX6_usedBy_55 (by decide) ?_
            refine j_loc [(3, .int (nI (t + 1))), (2, .int (ubF (v 1) c (t + 1))), (0, .ref (Y.2.1 0)), (1, .int c)] (by rw [← nI_1]; rfl) ?_
            exact ih (t + 1) (by omega) (by omega) u (frw.tr fr)
          · have ho : ubb (v 1) c t = bitI (nI t) := by unfold ubb; rw [ea]; exact if_pos h40
            refine j_iconst F.1 (1) dX6_usedBy_43 (by decide) ?_
            refine j_iload_n F.1 dX6_usedBy_44 rfl ?_
            refine j_ishl F.1 dX6_usedBy_45 ?_
            refine j_goto F.1 50 dX6_usedBy_46 (by decide) ?_
            refine j_ior F.1 dX6_usedBy_50 ?_
            refine j_top (y := ubF (v 1) c (t + 1)) (congrArg (fun z => ubF (v 1) c t ||| z) ho.symm) ?_
            refine j_istore_n F.1 dX6_usedBy_51 (by rw [hn]; decide) ?_
            refine j_iinc F.1 (1) dX6_usedBy_52 (by decide) rfl (by rw [hn]; decide) ?_
            refine j_goto F.1 14 dX6_usedBy_55 (by decide) ?_
            refine j_loc [(3, .int (nI (t + 1))), (2, .int (ubF (v 1) c (t + 1))), (0, .ref (Y.2.1 0)), (1, .int c)] (by rw [← nI_1]; rfl) ?_
            exact ih (t + 1) (by omega) (by omega) u (frw.tr fr)
  refine j_iload_n F.1 dX6_usedBy_0 rfl ?_
  refine j_callSi F (k_isCell) co_X6_isCell ml_X6_69 st_X6_isCell in_X6 rc_X6_isCell rfl (by decide) (by decide) rfl (Nat.le_of_ble_eq_true rfl) dX6_usedBy_1 ?_
  refine j_if_ne F.1 10 dX6_usedBy_4 (by decide) (fun h4 => ?_) (fun h4 => ?_)
  · rw [b2_0, Classical.not_not] at h4
    refine j_iconst F.1 (0) dX6_usedBy_10 (by decide) ?_
    refine j_istore_n F.1 dX6_usedBy_11 (by rw [hn]; decide) ?_
    refine j_iconst F.1 (0) dX6_usedBy_12 (by decide) ?_
    refine j_istore_n F.1 dX6_usedBy_13 (by rw [hn]; decide) ?_
    refine j_loc [(3, .int (nI (0))), (2, .int (ubF (v 1) c (0))), (0, .ref (Y.2.1 0)), (1, .int c)] rfl ?_
    exact loop h4 11 0 (by omega) (by omega) v FrA.rf
  · rw [b2_0] at h4
    refine j_ldc F cn_X6_50 dX6_usedBy_7 ?_
    exact j_iret F dX6_usedBy_9 ((by unfold S_usedBy; rw [if_neg h4]; exact FrA.rf.KQ hn3))
