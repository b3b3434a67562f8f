/-! The class: what is read of a cell. -/
def S_cellOf (f : Nat → Int32) (c w : Int32) : Int32 := M_cellOf (fun _ => f) c w
theorem co_t {v : rcM} {f p tx : Nat → Int32} {n ln i j : Nat} {x : Int32} (hC : CR v f p n tx ln) (hi : i < 10) (hj : j < 5) (h : nI j = 0 ∨ ((nI j = 1 ↔ f (ix i 0) = 0) ∧ (nI j < 4 ∨ f (ix i 0) = 5))) (e : x = f (ix i j)) : KX (S_cellOf f (nI i) (nI j)) f p n tx ln (some (.int x)) v := by
  refine ⟨?_, hC⟩
  rw [e, show S_cellOf f (nI i) (nI j) = f (ix i j) from M_cellOf_t (v := fun _ => f) hi hj h]
theorem co_f {v : rcM} {f p tx : Nat → Int32} {n ln i j : Nat} (hC : CR v f p n tx ln) (hi : i < 10) (hj : j < 5) (h : ¬ (nI j = 0 ∨ ((nI j = 1 ↔ f (ix i 0) = 0) ∧ (nI j < 4 ∨ f (ix i 0) = 5)))) : KX (S_cellOf f (nI i) (nI j)) f p n tx ln (some (.int (-2000000004))) v := by
  refine ⟨?_, hC⟩
  rw [show S_cellOf f (nI i) (nI j) = -2000000004 from M_cellOf_f (v := fun _ => f) hi hj h]
theorem co_n {v : rcM} {f p tx : Nat → Int32} {n ln : Nat} {c w : Int32} (hC : CR v f p n tx ln) (h : ¬ ((0 ≤ c ∧ c ≤ 9) ∧ (0 ≤ w ∧ w ≤ 4))) : KX (S_cellOf f c w) f p n tx ln (some (.int (-2000000001))) v := by
  refine ⟨?_, hC⟩
  unfold S_cellOf M_cellOf
  rw [if_neg h]
theorem sub_m1 (x : Int32) : x - -1 = x + 1 := by
  rw [Int32.sub_eq_add_neg]
  rfl
set_option maxHeartbeats 4000000 in
set_option maxRecDepth 100000 in
theorem c_cellOf {Y : rcY} {la : Launch} {v : rcM} {f p tx : Nat → Int32} {n ln : Nat} (hn4 : n ≤ 4) (hC : CR v f p n tx ln) {c w : Int32} : rcT shC 139 Y la 2 (yX5_cellOf, cX5_cellOf, 5, (some .int)) [.ref (Y.2.1 0), .int c, .int w] (v) (KX (S_cellOf f c w) f p n tx ln) := by
  refine rcT.of (by decide +kernel) (Nat.le_of_ble_eq_true rfl) (fun X F hn => ?_)
  refine j_iload_n F.1 dX5_cellOf_0 rfl ?_
  refine j_callSi F (c_isCell) co_X5_isCell ml_X5_40 st_X5_isCell in_X5 rc_X5_isCell rfl (by decide) (by decide) rfl (Nat.le_of_ble_eq_true rfl) dX5_cellOf_1 ?_
  refine j_if_eq F.1 16 dX5_cellOf_4 (by decide) (fun h4 => ?_) (fun h4 => ?_)
  · rw [b2_0] at h4
    refine j_ldc F cn_X5_47 dX5_cellOf_16 ?_
    exact j_iret F dX5_cellOf_18 ((co_n hC (fun z => by first | exact h4 z.1 | exact h13 z.2)))
  · rw [b2_0, Classical.not_not] at h4
    obtain ⟨i, hi, rfl⟩ := cell_of h4
    refine j_iload_n F.1 dX5_cellOf_7 rfl ?_
    refine j_iconst F.1 (0) dX5_cellOf_8 (by decide) ?_
    refine j_iconst F.1 (4) dX5_cellOf_9 (by decide) ?_
    refine j_callSi F (c_isWithin) co_X5_isWithin ml_X5_75 st_X5_isWithin in_X5 rc_X5_isWithin rfl (by decide) (by decide) rfl (Nat.le_of_ble_eq_true rfl) dX5_cellOf_10 ?_
    refine j_if_ne F.1 19 dX5_cellOf_13 (by decide) (fun h13 => ?_) (fun h13 => ?_)
    · rw [b2_0, Classical.not_not] at h13
      obtain ⟨j, hj, rfl⟩ := what_of (n := 4) rfl h13
      have q := (hC.1.1 i hi).1
      refine j_aload_n F.1 dX5_cellOf_19 rfl ?_
      refine j_getr F (k := 0) inX5 rfl (by decide) fl_X5_10 ⟨by decide, rfl⟩ rfl dX5_cellOf_20 ?_
      refine j_getr F (k := 0) inX3 rfl (by decide) fl_X5_79 (sh_st (k := 0) (by decide)) rfl dX5_cellOf_23 ?_
      refine j_iload_n F.1 dX5_cellOf_26 rfl ?_
      refine j_aald3 F (sh_arr (k := 0) (by decide)) rfl hi (by decide) dX5_cellOf_27 ?_
      refine j_getr F (k := 0) inX0 rfl (by decide) fl_X5_83 (sh_cell (k := 0) (by decide) hi) rfl dX5_cellOf_28 ?_
      refine j_astore_n F.1 dX5_cellOf_31 (by rw [hn]; decide) ?_
      refine j_aload_n F.1 dX5_cellOf_32 rfl ?_
      refine j_geti F (k := 0) inX1 rfl (by decide) fl_X5_88 (sh_def (k := 0) (by decide) hi) rfl dX5_cellOf_33 ?_
      refine j_iconst F.1 (-1) dX5_cellOf_36 (by decide) ?_
      refine j_icmp_eq F.1 44 dX5_cellOf_37 (by decide) (fun h37 => ?_) (fun h37 => ?_)
      · have h0 : f (ix i 0) = 0 := (hC.1.kind hi).mp h37
        refine j_iconst F.1 (0) dX5_cellOf_44 (by decide) ?_
        refine j_istore F.1 dX5_cellOf_45 (by rw [hn]; decide) ?_
        refine j_iload_n F.1 dX5_cellOf_47 rfl ?_
        by_cases h48_0 : nI j = 0
        · refine j_tableIn F.1 80 dX5_cellOf_48 (by rw [h48_0]; decide) (by rw [h48_0]; decide) (by rw [h48_0]; rfl) (by decide) ?_
          have ej : j = 0 := (nI_eq (by omega) (by decide)).mp h48_0
          subst ej
          refine j_aload_n F.1 dX5_cellOf_80 rfl ?_
          refine j_geti F (k := 0) inX1 rfl (by decide) fl_X5_88 (sh_def (k := 0) (by decide) hi) rfl dX5_cellOf_81 ?_
          refine j_iconst F.1 (-1) dX5_cellOf_84 (by decide) ?_
          refine j_isub F.1 dX5_cellOf_85 ?_
          exact j_iret F dX5_cellOf_86 ((co_t hC hi (by decide) (Or.inl rfl) (by rw [sub_m1]; exact q.1)))
        by_cases h48_1 : nI j = 1
        · refine j_tableIn F.1 87 dX5_cellOf_48 (by rw [h48_1]; decide) (by rw [h48_1]; decide) (by rw [h48_1]; rfl) (by decide) ?_
          have ej : j = 1 := (nI_eq (by omega) (by decide)).mp h48_1
          subst ej
          refine j_iload F.1 dX5_cellOf_87 rfl ?_
          refine j_if_eq F.1 97 dX5_cellOf_89 (by decide) (fun _ => ?_) (fun h89 => False.elim (by revert h89; decide))
          refine j_aload_n F.1 dX5_cellOf_97 rfl ?_
          refine j_geti F (k := 1) inX1 rfl (by decide) fl_X5_92 (sh_def (k := 0) (by decide) hi) rfl dX5_cellOf_98 ?_
          exact j_iret F dX5_cellOf_101 ((by first | exact co_t hC hi (by decide) (Or.inr ⟨⟨fun _ => h0, fun _ => rfl⟩, Or.inl (by decide)⟩) q.2.1 | exact co_f hC hi (by decide) (fun z => z.elim (by decide) (fun z => h0 (z.1.mp rfl)))))
        by_cases h48_2 : nI j = 2
        · refine j_tableIn F.1 102 dX5_cellOf_48 (by rw [h48_2]; decide) (by rw [h48_2]; decide) (by rw [h48_2]; rfl) (by decide) ?_
          have ej : j = 2 := (nI_eq (by omega) (by decide)).mp h48_2
          subst ej
          refine j_iload F.1 dX5_cellOf_102 rfl ?_
          refine j_if_eq F.1 114 dX5_cellOf_104 (by decide) (fun _ => ?_) (fun h104 => False.elim (by revert h104; decide))
          refine j_ldc F cn_X5_91 dX5_cellOf_114 ?_
          exact j_iret F dX5_cellOf_116 ((by first | exact co_t hC hi (by decide) (Or.inr ⟨⟨fun z => absurd z (by decide), fun z => absurd z h0⟩, Or.inl (by decide)⟩) q.2.2.1 | exact co_f hC hi (by decide) (fun z => z.elim (by decide) (fun z => absurd (z.1.mpr h0) (by decide)))))
        by_cases h48_3 : nI j = 3
        · refine j_tableIn F.1 117 dX5_cellOf_48 (by rw [h48_3]; decide) (by rw [h48_3]; decide) (by rw [h48_3]; rfl) (by decide) ?_
          have ej : j = 3 := (nI_eq (by omega) (by decide)).mp h48_3
          subst ej
          refine j_iload F.1 dX5_cellOf_117 rfl ?_
          refine j_if_eq F.1 129 dX5_cellOf_119 (by decide) (fun _ => ?_) (fun h119 => False.elim (by revert h119; decide))
          refine j_ldc F cn_X5_91 dX5_cellOf_129 ?_
          exact j_iret F dX5_cellOf_131 ((by first | exact co_t hC hi (by decide) (Or.inr ⟨⟨fun z => absurd z (by decide), fun z => absurd z h0⟩, Or.inl (by decide)⟩) q.2.2.2.1 | exact co_f hC hi (by decide) (fun z => z.elim (by decide) (fun z => absurd (z.1.mpr h0) (by decide)))))
        refine j_tableOut F.1 132 dX5_cellOf_48 (by have a0 : (nI j).toInt ≠ 0 := fun z => h48_0 (Int32.toInt_inj.mp (by rw [z]; rfl)); have a1 : (nI j).toInt ≠ 1 := fun z => h48_1 (Int32.toInt_inj.mp (by rw [z]; rfl)); have a2 : (nI j).toInt ≠ 2 := fun z => h48_2 (Int32.toInt_inj.mp (by rw [z]; rfl)); have a3 : (nI j).toInt ≠ 3 := fun z => h48_3 (Int32.toInt_inj.mp (by rw [z]; rfl)); omega) (by decide) ?_
        have ej : j = 4 := by
          have a0 : ¬ j = 0 := fun z => h48_0 (by rw [z]; rfl)
          have a1 : ¬ j = 1 := fun z => h48_1 (by rw [z]; rfl)
          have a2 : ¬ j = 2 := fun z => h48_2 (by rw [z]; rfl)
          have a3 : ¬ j = 3 := fun z => h48_3 (by rw [z]; rfl)
          omega
        subst ej
        refine j_aload_n F.1 dX5_cellOf_132 rfl ?_
        refine j_geti F (k := 0) inX1 rfl (by decide) fl_X5_88 (sh_def (k := 0) (by decide) hi) rfl dX5_cellOf_133 ?_
        refine j_iconst F.1 (4) dX5_cellOf_136 (by decide) ?_
        refine j_icmp_ne F.1 147 dX5_cellOf_137 (by decide) (fun h137 => ?_) (fun h137 => ?_)
        · have h5 : ¬ f (ix i 0) = 5 := fun z => h137 (inj1 (by rw [q.1, z]; rfl))
          refine j_ldc F cn_X5_91 dX5_cellOf_147 ?_
          exact j_iret F dX5_cellOf_149 ((by first | exact co_t hC hi (by decide) (Or.inr ⟨⟨fun z => absurd z (by decide), fun z => absurd (h5.symm.trans z) (by decide)⟩, Or.inr h5⟩) q.2.2.2.2 | exact co_f hC hi (by decide) (fun z => z.elim (by decide) (fun z => z.2.elim (by decide) h5))))
        · have h5 : f (ix i 0) = 5 := by rw [← q.1, h137]; rfl
          refine j_aload_n F.1 dX5_cellOf_140 rfl ?_
          refine j_geti F (k := 4) inX1 rfl (by decide) fl_X5_101 (sh_def (k := 0) (by decide) hi) rfl dX5_cellOf_141 ?_
          refine j_goto F.1 149 dX5_cellOf_144 (by decide) ?_
          exact j_iret F dX5_cellOf_149 ((by first | exact co_t hC hi (by decide) (Or.inr ⟨⟨fun z => absurd z (by decide), fun z => absurd (h5.symm.trans z) (by decide)⟩, Or.inr h5⟩) q.2.2.2.2 | exact co_f hC hi (by decide) (fun z => z.elim (by decide) (fun z => z.2.elim (by decide) h5))))
      · have h0 : ¬ f (ix i 0) = 0 := fun z => h37 ((hC.1.kind hi).mpr z)
        refine j_iconst F.1 (1) dX5_cellOf_40 (by decide) ?_
        refine j_goto F.1 45 dX5_cellOf_41 (by decide) ?_
        refine j_istore F.1 dX5_cellOf_45 (by rw [hn]; decide) ?_
        refine j_iload_n F.1 dX5_cellOf_47 rfl ?_
        by_cases h48_0 : nI j = 0
        · refine j_tableIn F.1 80 dX5_cellOf_48 (by rw [h48_0]; decide) (by rw [h48_0]; decide) (by rw [h48_0]; rfl) (by decide) ?_
          have ej : j = 0 := (nI_eq (by omega) (by decide)).mp h48_0
          subst ej
          refine j_aload_n F.1 dX5_cellOf_80 rfl ?_
          refine j_geti F (k := 0) inX1 rfl (by decide) fl_X5_88 (sh_def (k := 0) (by decide) hi) rfl dX5_cellOf_81 ?_
          refine j_iconst F.1 (-1) dX5_cellOf_84 (by decide) ?_
          refine j_isub F.1 dX5_cellOf_85 ?_
          exact j_iret F dX5_cellOf_86 ((co_t hC hi (by decide) (Or.inl rfl) (by rw [sub_m1]; exact q.1)))
        by_cases h48_1 : nI j = 1
        · refine j_tableIn F.1 87 dX5_cellOf_48 (by rw [h48_1]; decide) (by rw [h48_1]; decide) (by rw [h48_1]; rfl) (by decide) ?_
          have ej : j = 1 := (nI_eq (by omega) (by decide)).mp h48_1
          subst ej
          refine j_iload F.1 dX5_cellOf_87 rfl ?_
          refine j_if_eq F.1 97 dX5_cellOf_89 (by decide) (fun h89 => False.elim (by revert h89; decide)) (fun _ => ?_)
          refine j_ldc F cn_X5_91 dX5_cellOf_92 ?_
          refine j_goto F.1 101 dX5_cellOf_94 (by decide) ?_
          exact j_iret F dX5_cellOf_101 ((by first | exact co_t hC hi (by decide) (Or.inr ⟨⟨fun _ => h0, fun _ => rfl⟩, Or.inl (by decide)⟩) q.2.1 | exact co_f hC hi (by decide) (fun z => z.elim (by decide) (fun z => h0 (z.1.mp rfl)))))
        by_cases h48_2 : nI j = 2
        · refine j_tableIn F.1 102 dX5_cellOf_48 (by rw [h48_2]; decide) (by rw [h48_2]; decide) (by rw [h48_2]; rfl) (by decide) ?_
          have ej : j = 2 := (nI_eq (by omega) (by decide)).mp h48_2
          subst ej
          refine j_iload F.1 dX5_cellOf_102 rfl ?_
          refine j_if_eq F.1 114 dX5_cellOf_104 (by decide) (fun h104 => False.elim (by revert h104; decide)) (fun _ => ?_)
          refine j_aload_n F.1 dX5_cellOf_107 rfl ?_
          refine j_geti F (k := 2) inX1 rfl (by decide) fl_X5_95 (sh_def (k := 0) (by decide) hi) rfl dX5_cellOf_108 ?_
          refine j_goto F.1 116 dX5_cellOf_111 (by decide) ?_
          exact j_iret F dX5_cellOf_116 ((by first | exact co_t hC hi (by decide) (Or.inr ⟨⟨fun z => absurd z (by decide), fun z => absurd z h0⟩, Or.inl (by decide)⟩) q.2.2.1 | exact co_f hC hi (by decide) (fun z => z.elim (by decide) (fun z => absurd (z.1.mpr h0) (by decide)))))
        by_cases h48_3 : nI j = 3
        · refine j_tableIn F.1 117 dX5_cellOf_48 (by rw [h48_3]; decide) (by rw [h48_3]; decide) (by rw [h48_3]; rfl) (by decide) ?_
          have ej : j = 3 := (nI_eq (by omega) (by decide)).mp h48_3
          subst ej
          refine j_iload F.1 dX5_cellOf_117 rfl ?_
          refine j_if_eq F.1 129 dX5_cellOf_119 (by decide) (fun h119 => False.elim (by revert h119; decide)) (fun _ => ?_)
          refine j_aload_n F.1 dX5_cellOf_122 rfl ?_
          refine j_geti F (k := 3) inX1 rfl (by decide) fl_X5_98 (sh_def (k := 0) (by decide) hi) rfl dX5_cellOf_123 ?_
          refine j_goto F.1 131 dX5_cellOf_126 (by decide) ?_
          exact j_iret F dX5_cellOf_131 ((by first | exact co_t hC hi (by decide) (Or.inr ⟨⟨fun z => absurd z (by decide), fun z => absurd z h0⟩, Or.inl (by decide)⟩) q.2.2.2.1 | exact co_f hC hi (by decide) (fun z => z.elim (by decide) (fun z => absurd (z.1.mpr h0) (by decide)))))
        refine j_tableOut F.1 132 dX5_cellOf_48 (by have a0 : (nI j).toInt ≠ 0 := fun z => h48_0 (Int32.toInt_inj.mp (by rw [z]; rfl)); have a1 : (nI j).toInt ≠ 1 := fun z => h48_1 (Int32.toInt_inj.mp (by rw [z]; rfl)); have a2 : (nI j).toInt ≠ 2 := fun z => h48_2 (Int32.toInt_inj.mp (by rw [z]; rfl)); have a3 : (nI j).toInt ≠ 3 := fun z => h48_3 (Int32.toInt_inj.mp (by rw [z]; rfl)); omega) (by decide) ?_
        have ej : j = 4 := by
          have a0 : ¬ j = 0 := fun z => h48_0 (by rw [z]; rfl)
          have a1 : ¬ j = 1 := fun z => h48_1 (by rw [z]; rfl)
          have a2 : ¬ j = 2 := fun z => h48_2 (by rw [z]; rfl)
          have a3 : ¬ j = 3 := fun z => h48_3 (by rw [z]; rfl)
          omega
        subst ej
        refine j_aload_n F.1 dX5_cellOf_132 rfl ?_
        refine j_geti F (k := 0) inX1 rfl (by decide) fl_X5_88 (sh_def (k := 0) (by decide) hi) rfl dX5_cellOf_133 ?_
        refine j_iconst F.1 (4) dX5_cellOf_136 (by decide) ?_
        refine j_icmp_ne F.1 147 dX5_cellOf_137 (by decide) (fun h137 => ?_) (fun h137 => ?_)
        · have h5 : ¬ f (ix i 0) = 5 := fun z => h137 (inj1 (by rw [q.1, z]; rfl))
          refine j_ldc F cn_X5_91 dX5_cellOf_147 ?_
          exact j_iret F dX5_cellOf_149 ((by first | exact co_t hC hi (by decide) (Or.inr ⟨⟨fun z => absurd z (by decide), fun z => absurd (h5.symm.trans z) (by decide)⟩, Or.inr h5⟩) q.2.2.2.2 | exact co_f hC hi (by decide) (fun z => z.elim (by decide) (fun z => z.2.elim (by decide) h5))))
        · have h5 : f (ix i 0) = 5 := by rw [← q.1, h137]; rfl
          refine j_aload_n F.1 dX5_cellOf_140 rfl ?_
          refine j_geti F (k := 4) inX1 rfl (by decide) fl_X5_101 (sh_def (k := 0) (by decide) hi) rfl dX5_cellOf_141 ?_
          refine j_goto F.1 149 dX5_cellOf_144 (by decide) ?_
          exact j_iret F dX5_cellOf_149 ((by first | exact co_t hC hi (by decide) (Or.inr ⟨⟨fun z => absurd z (by decide), fun z => absurd (h5.symm.trans z) (by decide)⟩, Or.inr h5⟩) q.2.2.2.2 | exact co_f hC hi (by decide) (fun z => z.elim (by decide) (fun z => z.2.elim (by decide) h5))))
    · rw [b2_0] at h13
      refine j_ldc F cn_X5_47 dX5_cellOf_16 ?_
      exact j_iret F dX5_cellOf_18 ((co_n hC (fun z => by first | exact h4 z.1 | exact h13 z.2)))
theorem ro_s {v : rcM} {f p tx : Nat → Int32} {n ln i j : Nat} {x : Int32} (hC : CR v f p n tx ln) (hi : i < 10) (hj : 0 ≤ nI j ∧ nI j ≤ 6) (h6 : f (ix i 6) = 1) (hn : ¬ ((4 ≤ nI j ∧ nI j ≤ 5) ∧ f (ix i 10) ≤ nI j - 4)) (hw : ¬ nI j = 6) (hj10 : j < 10) (e : x = f (ix i (7 + j))) : KXq (S_remOf f p n (nI i) (nI j)) tx ln (some (.int x)) v := by
  unfold S_remOf
  rw [if_pos ⟨nI_in9 hi, hj⟩, cN_nI hi, if_neg (fun z => z.elim (fun z => absurd (h6.symm.trans z) (by decide)) hn), if_neg hw, cN_nI hj10]
  exact ⟨by rw [e]; rfl, hC⟩
theorem ro_f {v : rcM} {f p tx : Nat → Int32} {n ln i j : Nat} (hC : CR v f p n tx ln) (hi : i < 10) (hj : 0 ≤ nI j ∧ nI j ≤ 6) (h : f (ix i 6) = 0 ∨ ((4 ≤ nI j ∧ nI j ≤ 5) ∧ f (ix i 10) ≤ nI j - 4)) : KXq (S_remOf f p n (nI i) (nI j)) tx ln (some (.int (-2000000004))) v := by
  unfold S_remOf
  rw [if_pos ⟨nI_in9 hi, hj⟩, cN_nI hi, if_pos h]
  exact ⟨rfl, hC⟩
theorem ro_n {v : rcM} {f p tx : Nat → Int32} {n ln : Nat} {c w : Int32} (hC : CR v f p n tx ln) (h : ¬ ((0 ≤ c ∧ c ≤ 9) ∧ (0 ≤ w ∧ w ≤ 6))) : KXq (S_remOf f p n c w) tx ln (some (.int (-2000000001))) v := by
  unfold S_remOf
  rw [if_neg h]
  exact ⟨rfl, hC⟩
theorem ro_6 {v : rcM} {f p tx : Nat → Int32} {n ln i : Nat} (hC : CR v f p n tx ln) (hi : i < 10) (h6 : f (ix i 6) = 1) : KXq (S_remOf f p n (nI i) (nI 6)) tx ln (some (.int (plc f i 10))) v := by
  unfold S_remOf
  rw [if_pos ⟨nI_in9 hi, by decide⟩, cN_nI hi, if_neg (fun z => z.elim (fun z => absurd (h6.symm.trans z) (by decide)) (fun z => absurd z.1 (by decide))), if_pos (show nI 6 = 6 from rfl)]
  exact ⟨rfl, hC⟩
theorem sec_is {f : Nat → Int32} {i : Nat} {s : Int32} (hm : f (ix i 10) = 1 ∨ (f (ix i 10) = 2 ∧ okC (f (ix i 12)))) (hs : s = if f (ix i 10) = 1 then -1 else f (ix i 12)) : (s = -1 → f (ix i 10) = 1) ∧ (¬ s = -1 → f (ix i 10) = 2 ∧ s = f (ix i 12)) := by
  rcases hm with h | ⟨h, hc⟩
  · rw [if_pos h] at hs
    exact ⟨fun _ => h, fun z => absurd hs z⟩
  · have h1 : ¬ f (ix i 10) = 1 := by rw [h]; decide
    rw [if_neg h1] at hs
    refine ⟨fun z => ?_, fun _ => ⟨h, hs⟩⟩
    obtain ⟨y, hy, e⟩ := hc
    rw [hs, e] at z
    exact absurd z (fun z => nI_pos (n := y) (by omega) (by rw [z]; decide))
theorem m_0 {x : Int32} {P : Prop} (h : x = 1 ∨ (x = 2 ∧ P)) (z : x ≤ nI 4 - 4) : False := by
  rcases h with h | h
  · rw [h] at z; exact absurd z (by decide)
  · rw [h.1] at z; exact absurd z (by decide)
set_option maxHeartbeats 4000000 in
set_option maxRecDepth 100000 in
theorem c_rememberedOf {Y : rcY} {la : Launch} {v : rcM} {f p tx : Nat → Int32} {n ln : Nat} (hn4 : n ≤ 4) (hC : CR v f p n tx ln) (hw : WF f) {c w : Int32} : rcT shC 139 Y la 2 (yX5_rememberedOf, cX5_rememberedOf, 4, (some .int)) [.ref (Y.2.1 0), .int c, .int w] (v) (KXq (S_remOf f p n c w) tx ln) := by
  refine rcT.of (by decide +kernel) (Nat.le_of_ble_eq_true rfl) (fun X F hn => ?_)
  refine j_iload_n F.1 dX5_rememberedOf_0 rfl ?_
  refine j_callSi F (c_isCell) co_X5_isCell ml_X5_40 st_X5_isCell in_X5 rc_X5_isCell rfl (by decide) (by decide) rfl (Nat.le_of_ble_eq_true rfl) dX5_rememberedOf_1 ?_
  refine j_if_eq F.1 17 dX5_rememberedOf_4 (by decide) (fun h4 => ?_) (fun h4 => ?_)
  · rw [b2_0] at h4
    refine j_ldc F cn_X5_47 dX5_rememberedOf_17 ?_
    exact j_iret F dX5_rememberedOf_19 ((ro_n hC (fun z => by first | exact h4 z.1 | exact h14 z.2)))
  · rw [b2_0, Classical.not_not] at h4
    obtain ⟨i, hi, rfl⟩ := cell_of h4
    refine j_iload_n F.1 dX5_rememberedOf_7 rfl ?_
    refine j_iconst F.1 (0) dX5_rememberedOf_8 (by decide) ?_
    refine j_bipush F.1 (6) dX5_rememberedOf_9 (by decide) ?_
    refine j_callSi F (c_isWithin) co_X5_isWithin ml_X5_75 st_X5_isWithin in_X5 rc_X5_isWithin rfl (by decide) (by decide) rfl (Nat.le_of_ble_eq_true rfl) dX5_rememberedOf_11 ?_
    refine j_if_ne F.1 20 dX5_rememberedOf_14 (by decide) (fun h14 => ?_) (fun h14 => ?_)
    · rw [b2_0, Classical.not_not] at h14
      obtain ⟨j, hj, rfl⟩ := what_of (n := 6) rfl h14
      refine j_aload_n F.1 dX5_rememberedOf_20 rfl ?_
      refine j_getr F (k := 0) inX5 rfl (by decide) fl_X5_10 ⟨by decide, rfl⟩ rfl dX5_rememberedOf_21 ?_
      refine j_getr F (k := 0) inX3 rfl (by decide) fl_X5_79 (sh_st (k := 0) (by decide)) rfl dX5_rememberedOf_24 ?_
      refine j_iload_n F.1 dX5_rememberedOf_27 rfl ?_
      refine j_aald3 F (sh_arr (k := 0) (by decide)) rfl hi (by decide) dX5_rememberedOf_28 ?_
      refine j_astore_n F.1 dX5_rememberedOf_29 (by rw [hn]; decide) ?_
      refine j_aload_n F.1 dX5_rememberedOf_30 rfl ?_
      refine j_getz F (k := 2) inX0 rfl (by decide) fl_X5_131 (sh_cell (k := 0) (by decide) hi) rfl dX5_rememberedOf_31 ?_
      refine j_if_ne F.1 40 dX5_rememberedOf_34 (by decide) (fun h34 => ?_) (fun h34 => ?_)
      · have h6 : f (ix i 6) = 1 := hC.1.has1 hi h34
        have q := (hC.1.1 i hi).2.2.2 h6
        have hwc := (hw.1 i hi).2.2.2.2 h6
        have sc := sec_is hwc.2.1 q.2.2.2.2
        refine j_iload_n F.1 dX5_rememberedOf_40 rfl ?_
        by_cases h41_0 : nI j = 0
        · refine j_tableIn F.1 80 dX5_rememberedOf_41 (by rw [h41_0]; decide) (by rw [h41_0]; decide) (by rw [h41_0]; rfl) (by decide) ?_
          have ej : j = 0 := (nI_eq (by omega) (by decide)).mp h41_0
          subst ej
          refine j_aload_n F.1 dX5_rememberedOf_80 rfl ?_
          refine j_geti F (k := 3) inX0 rfl (by decide) fl_X5_144 (sh_cell (k := 0) (by decide) hi) rfl dX5_rememberedOf_81 ?_
          exact j_iret F dX5_rememberedOf_84 ((ro_s hC hi h14 h6 (fun z => absurd z.1 (by decide)) (by decide) (by decide) q.2.1))
        by_cases h41_1 : nI j = 1
        · refine j_tableIn F.1 85 dX5_rememberedOf_41 (by rw [h41_1]; decide) (by rw [h41_1]; decide) (by rw [h41_1]; rfl) (by decide) ?_
          have ej : j = 1 := (nI_eq (by omega) (by decide)).mp h41_1
          subst ej
          refine j_aload_n F.1 dX5_rememberedOf_85 rfl ?_
          refine j_geti F (k := 1) inX0 rfl (by decide) fl_X5_147 (sh_cell (k := 0) (by decide) hi) rfl dX5_rememberedOf_86 ?_
          exact j_iret F dX5_rememberedOf_89 ((ro_s hC hi h14 h6 (fun z => absurd z.1 (by decide)) (by decide) (by decide) q.1))
        by_cases h41_2 : nI j = 2
        · refine j_tableIn F.1 90 dX5_rememberedOf_41 (by rw [h41_2]; decide) (by rw [h41_2]; decide) (by rw [h41_2]; rfl) (by decide) ?_
          have ej : j = 2 := (nI_eq (by omega) (by decide)).mp h41_2
          subst ej
          refine j_aload_n F.1 dX5_rememberedOf_90 rfl ?_
          refine j_geti F (k := 4) inX0 rfl (by decide) fl_X5_150 (sh_cell (k := 0) (by decide) hi) rfl dX5_rememberedOf_91 ?_
          exact j_iret F dX5_rememberedOf_94 ((ro_s hC hi h14 h6 (fun z => absurd z.1 (by decide)) (by decide) (by decide) q.2.2.1))
        by_cases h41_3 : nI j = 3
        · refine j_tableIn F.1 95 dX5_rememberedOf_41 (by rw [h41_3]; decide) (by rw [h41_3]; decide) (by rw [h41_3]; rfl) (by decide) ?_
          have ej : j = 3 := (nI_eq (by omega) (by decide)).mp h41_3
          subst ej
          refine j_aload_n F.1 dX5_rememberedOf_95 rfl ?_
          refine j_geti F (k := 5) inX0 rfl (by decide) fl_X5_153 (sh_cell (k := 0) (by decide) hi) rfl dX5_rememberedOf_96 ?_
          refine j_iconst F.1 (-1) dX5_rememberedOf_99 (by decide) ?_
          refine j_icmp_ne F.1 107 dX5_rememberedOf_100 (by decide) (fun h100 => ?_) (fun h100 => ?_)
          · have hm := (sc.2 h100).1
            refine j_iconst F.1 (2) dX5_rememberedOf_107 (by decide) ?_
            exact j_iret F dX5_rememberedOf_108 ((ro_s hC hi h14 h6 (fun z => absurd z.1 (by decide)) (by decide) (by decide) hm.symm))
          · have hm := sc.1 h100
            refine j_iconst F.1 (1) dX5_rememberedOf_103 (by decide) ?_
            refine j_goto F.1 108 dX5_rememberedOf_104 (by decide) ?_
            exact j_iret F dX5_rememberedOf_108 ((ro_s hC hi h14 h6 (fun z => absurd z.1 (by decide)) (by decide) (by decide) hm.symm))
        by_cases h41_4 : nI j = 4
        · refine j_tableIn F.1 109 dX5_rememberedOf_41 (by rw [h41_4]; decide) (by rw [h41_4]; decide) (by rw [h41_4]; rfl) (by decide) ?_
          have ej : j = 4 := (nI_eq (by omega) (by decide)).mp h41_4
          subst ej
          refine j_aload_n F.1 dX5_rememberedOf_109 rfl ?_
          refine j_getr F (k := 0) inX0 rfl (by decide) fl_X5_83 (sh_cell (k := 0) (by decide) hi) rfl dX5_rememberedOf_110 ?_
          refine j_geti F (k := 2) inX1 rfl (by decide) fl_X5_95 (sh_def (k := 0) (by decide) hi) rfl dX5_rememberedOf_113 ?_
          exact j_iret F dX5_rememberedOf_116 ((ro_s hC hi h14 h6 (fun z => m_0 hwc.2.1 z.2) (by decide) (by decide) ((hC.1.1 i hi).1.2.2.1.trans hwc.1.symm)))
        by_cases h41_5 : nI j = 5
        · refine j_tableIn F.1 117 dX5_rememberedOf_41 (by rw [h41_5]; decide) (by rw [h41_5]; decide) (by rw [h41_5]; rfl) (by decide) ?_
          have ej : j = 5 := (nI_eq (by omega) (by decide)).mp h41_5
          subst ej
          refine j_aload_n F.1 dX5_rememberedOf_117 rfl ?_
          refine j_geti F (k := 5) inX0 rfl (by decide) fl_X5_153 (sh_cell (k := 0) (by decide) hi) rfl dX5_rememberedOf_118 ?_
          refine j_iconst F.1 (-1) dX5_rememberedOf_121 (by decide) ?_
          refine j_icmp_ne F.1 130 dX5_rememberedOf_122 (by decide) (fun h122 => ?_) (fun h122 => ?_)
          · have hm := sc.2 h122
            refine j_aload_n F.1 dX5_rememberedOf_130 rfl ?_
            refine j_geti F (k := 5) inX0 rfl (by decide) fl_X5_153 (sh_cell (k := 0) (by decide) hi) rfl dX5_rememberedOf_131 ?_
            exact j_iret F dX5_rememberedOf_134 ((by first | exact ro_f hC hi h14 (Or.inr ⟨by decide, by rw [hm]; decide⟩) | exact ro_s hC hi h14 h6 (fun z => absurd z.2 (by rw [hm.1]; decide)) (by decide) (by decide) hm.2))
          · have hm := sc.1 h122
            refine j_ldc F cn_X5_91 dX5_rememberedOf_125 ?_
            refine j_goto F.1 134 dX5_rememberedOf_127 (by decide) ?_
            exact j_iret F dX5_rememberedOf_134 ((by first | exact ro_f hC hi h14 (Or.inr ⟨by decide, by rw [hm]; decide⟩) | exact ro_s hC hi h14 h6 (fun z => absurd z.2 (by rw [hm.1]; decide)) (by decide) (by decide) hm.2))
        refine j_tableOut F.1 135 dX5_rememberedOf_41 (by have a0 : (nI j).toInt ≠ 0 := fun z => h41_0 (Int32.toInt_inj.mp (by rw [z]; rfl)); have a1 : (nI j).toInt ≠ 1 := fun z => h41_1 (Int32.toInt_inj.mp (by rw [z]; rfl)); have a2 : (nI j).toInt ≠ 2 := fun z => h41_2 (Int32.toInt_inj.mp (by rw [z]; rfl)); have a3 : (nI j).toInt ≠ 3 := fun z => h41_3 (Int32.toInt_inj.mp (by rw [z]; rfl)); have a4 : (nI j).toInt ≠ 4 := fun z => h41_4 (Int32.toInt_inj.mp (by rw [z]; rfl)); have a5 : (nI j).toInt ≠ 5 := fun z => h41_5 (Int32.toInt_inj.mp (by rw [z]; rfl)); omega) (by decide) ?_
        have ej : j = 6 := by
          have a0 : ¬ j = 0 := fun z => h41_0 (by rw [z]; rfl)
          have a1 : ¬ j = 1 := fun z => h41_1 (by rw [z]; rfl)
          have a2 : ¬ j = 2 := fun z => h41_2 (by rw [z]; rfl)
          have a3 : ¬ j = 3 := fun z => h41_3 (by rw [z]; rfl)
          have a4 : ¬ j = 4 := fun z => h41_4 (by rw [z]; rfl)
          have a5 : ¬ j = 5 := fun z => h41_5 (by rw [z]; rfl)
          omega
        subst ej
        refine j_aload_n F.1 dX5_rememberedOf_135 rfl ?_
        refine j_getr F (k := 0) inX5 rfl (by decide) fl_X5_10 ⟨by decide, rfl⟩ rfl dX5_rememberedOf_136 ?_
        refine j_iload_n F.1 dX5_rememberedOf_139 rfl ?_
        refine j_callVi F (c_placeOf (k := 0) (by decide) hC.1 hi h6) co_X3_placeOf ml_X5_156 im_X3_placeOf se_X3_placeOf in_X3 rc_X3_placeOf rfl (by decide) (by decide) (sh_st (k := 0) (by decide)) rfl rfl (Nat.le_of_ble_eq_true rfl) dX5_rememberedOf_140 ?_
        exact j_iret F dX5_rememberedOf_143 ((ro_6 hC hi h6))
      · have h60 : f (ix i 6) = 0 := hC.1.has0 hi (by first | exact h34 | exact Classical.not_not.mp h34)
        refine j_ldc F cn_X5_91 dX5_rememberedOf_37 ?_
        exact j_iret F dX5_rememberedOf_39 ((ro_f hC hi h14 (Or.inl h60)))
    · rw [b2_0] at h14
      refine j_ldc F cn_X5_47 dX5_rememberedOf_17 ?_
      exact j_iret F dX5_rememberedOf_19 ((ro_n hC (fun z => by first | exact h4 z.1 | exact h14 z.2)))
