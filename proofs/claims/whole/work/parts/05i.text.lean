/-! The reference: numbers, formulas, definitions as texts. -/
def dg (tx : Nat → Int32) (ln : Nat) : Nat → Nat → Int32 → Nat × Int32
  | 0, p, x => (p, x)
  | k + 1, p, x => if digB (chr tx ln p) = true then dg tx ln k (p + 1) (10 * x + chr tx ln p - 48) else (p, x)
theorem dg_ge {tx : Nat → Int32} {ln : Nat} : ∀ (k p : Nat) (x : Int32), p ≤ (dg tx ln k p x).1 ∧ (dg tx ln k p x).1 ≤ p + k
  | 0, p, x => ⟨Nat.le_refl _, Nat.le_refl _⟩
  | k + 1, p, x => by
    unfold dg
    split
    · have := dg_ge (tx := tx) (ln := ln) k (p + 1) (10 * x + chr tx ln p - 48)
      omega
    · exact ⟨Nat.le_refl _, by show p ≤ _; omega⟩
theorem dg_s {tx : Nat → Int32} {ln k p : Nat} {x : Int32} : dg tx ln (k + 1) p x = if digB (chr tx ln p) = true then dg tx ln k (p + 1) (10 * x + chr tx ln p - 48) else (p, x) := rfl
theorem tk_le {s : Nat × Bool} {t : Bool} : (tk s t).1 ≤ s.1 + 1 := by unfold tk; dsimp only; split <;> omega
theorem chr_lt {tx : Nat → Int32} {ln p : Nat} (h : ¬ chr tx ln p = -1) : p < ln := by
  rcases Nat.lt_or_ge p ln with z | z
  · exact z
  · exact absurd (if_neg (by omega)) h
theorem chr_tx {tx : Nat → Int32} {ln p : Nat} (h : p < ln) : chr tx ln p = tx p := if_pos h
set_option maxHeartbeats 4000000 in
set_option maxRecDepth 100000 in
theorem k_readNumN {Y : rcY} {la : Launch} {v : rcM} {p ln : Nat} {rd : Nat → Int32} (hl : v 0 5 = nI ln) (hln : ln ≤ 60) (hp : p ≤ 90) (h45 : chr (v 4) ln p = 45) : rcT shM 13 Y la 1 (yX6_readNumber, cX6_readNumber, 4, none) [.ref (Y.2.1 0)] (TM v p true rd) (rV (TM v ((dg (v 4) ln 5 (p + 1) 0).1) (true && decide (0 < (dg (v 4) ln 5 (p + 1) 0).1 - (p + 1))) (upd rd 2 (-((dg (v 4) ln 5 (p + 1) 0).2))))) := by
  refine rcT.of (by decide +kernel) (Nat.le_of_ble_eq_true rfl) (fun X F hn => ?_)
  have fin : ∀ (q dc : Nat) (x : Int32), dc ≤ 5 → rcJ shM 13 Y X (rV (TM v (q) (true && decide (0 < dc)) (upd rd 2 (-(x))))) 101 [(3, .int (nI dc)), (2, .int x), (1, .int 1), (0, .ref (Y.2.1 0))] [] (TM v q true rd) := by
    intro q dc x hdc
    refine j_aload_n F.1 dX6_readNumber_101 rfl ?_
    refine j_aload_n F.1 dX6_readNumber_102 rfl ?_
    refine j_getz F (k := 16) inX6 rfl (by decide) fl_X6_176 ⟨by decide, rfl⟩ rfl dX6_readNumber_103 ?_
    refine j_top (y := 1) rfl ?_
    refine j_if_eq F.1 117 dX6_readNumber_106 (by decide) (fun h106 => False.elim (by revert h106; decide)) (fun _ => ?_)
    refine j_iload_n F.1 dX6_readNumber_109 rfl ?_
    refine j_if_le F.1 117 dX6_readNumber_110 (by decide) (fun h110 => ?_) (fun h110 => ?_)
    · have z : (true && decide (0 < dc)) = false := by
        rcases Nat.eq_zero_or_pos dc with e | e
        · subst e; rfl
        · exact absurd h110 (nI_nle e (by omega))
      refine j_iconst F.1 (0) dX6_readNumber_117 (by decide) ?_
      refine j_top (y := bI (true && decide (0 < dc))) (by rw [z]; rfl) ?_
      refine j_putz F (k := 16) inX6 tyX6_ok nmX6 rfl (by decide) fl_X6_176 rfl rfl ⟨by decide, rfl⟩ rfl (bI_01 _) dX6_readNumber_118 ?_
      rw [TM_fm]
      refine j_aload_n F.1 dX6_readNumber_121 rfl ?_
      refine j_getr F (k := 17) inX6 rfl (by decide) fl_X6_43 ⟨by decide, rfl⟩ rfl dX6_readNumber_122 ?_
      refine j_iconst F.1 (2) dX6_readNumber_125 (by decide) ?_
      refine j_iload_n F.1 dX6_readNumber_126 rfl ?_
      refine j_if_eq F.1 135 dX6_readNumber_127 (by decide) (fun h127 => False.elim (by revert h127; decide)) (fun _ => ?_)
      refine j_iload_n F.1 dX6_readNumber_130 rfl ?_
      refine j_ineg F.1 dX6_readNumber_131 ?_
      refine j_goto F.1 136 dX6_readNumber_132 (by decide) ?_
      refine j_iast F ⟨by decide, rfl⟩ rfl (by decide) (by decide) dX6_readNumber_136 ?_
      exact j_vret F dX6_readNumber_137 ((rVe TM_rd))
    · have z : (true && decide (0 < dc)) = true := by
        rcases Nat.eq_zero_or_pos dc with e | e
        · subst e; exact absurd (by decide) h110
        · simp [e]
      refine j_iconst F.1 (1) dX6_readNumber_113 (by decide) ?_
      refine j_goto F.1 118 dX6_readNumber_114 (by decide) ?_
      refine j_top (y := bI (true && decide (0 < dc))) (by rw [z]; rfl) ?_
      refine j_putz F (k := 16) inX6 tyX6_ok nmX6 rfl (by decide) fl_X6_176 rfl rfl ⟨by decide, rfl⟩ rfl (bI_01 _) dX6_readNumber_118 ?_
      rw [TM_fm]
      refine j_aload_n F.1 dX6_readNumber_121 rfl ?_
      refine j_getr F (k := 17) inX6 rfl (by decide) fl_X6_43 ⟨by decide, rfl⟩ rfl dX6_readNumber_122 ?_
      refine j_iconst F.1 (2) dX6_readNumber_125 (by decide) ?_
      refine j_iload_n F.1 dX6_readNumber_126 rfl ?_
      refine j_if_eq F.1 135 dX6_readNumber_127 (by decide) (fun h127 => False.elim (by revert h127; decide)) (fun _ => ?_)
      refine j_iload_n F.1 dX6_readNumber_130 rfl ?_
      refine j_ineg F.1 dX6_readNumber_131 ?_
      refine j_goto F.1 136 dX6_readNumber_132 (by decide) ?_
      refine j_iast F ⟨by decide, rfl⟩ rfl (by decide) (by decide) dX6_readNumber_136 ?_
      exact j_vret F dX6_readNumber_137 ((rVe TM_rd))
  have loop : ∀ (k p dc : Nat) (x : Int32), dc + k = 5 → p ≤ 95 + dc → rcJ shM 13 Y X (rV (TM v ((dg (v 4) ln k p x).1) (true && decide (0 < dc + ((dg (v 4) ln k p x).1 - p))) (upd rd 2 (-((dg (v 4) ln k p x).2))))) 53 [(3, .int (nI dc)), (2, .int x), (1, .int 1), (0, .ref (Y.2.1 0))] [] (TM v p true rd) := by
    intro k
    induction k with
    | zero =>
      intro p dc x hk hp
      refine j_iload_n F.1 dX6_readNumber_53 rfl ?_
      refine j_iconst F.1 (5) dX6_readNumber_54 (by decide) ?_
      refine j_icmp_ge F.1 101 dX6_readNumber_55 (by decide) (fun h55 => ?_) (fun h55 => ?_)
      · have e := fin p dc x (by omega)
        rw [show (dg (v 4) ln 0 p x) = (p, x) from rfl, Nat.sub_self, Nat.add_zero]
        exact e
      · exact absurd (nI_le (a := 5) (b := dc) (by omega) (by omega)) h55
    | succ k ih =>
      intro p dc x hk hp
      refine j_iload_n F.1 dX6_readNumber_53 rfl ?_
      refine j_iconst F.1 (5) dX6_readNumber_54 (by decide) ?_
      
      refine j_icmp_ge F.1 101 dX6_readNumber_55 (by decide) (fun h55 => ?_) (fun h55 => ?_)
      · exact absurd h55 (Int32.not_le.mpr (nI_lt (a := dc) (b := 5) (by omega) (by omega)))
      · refine j_aload_n F.1 dX6_readNumber_58 rfl ?_
        refine j_callVi F (k_here hl hln (by omega)) co_X6_here ml_X6_179 im_X6_here se_X6_here in_X6 rc_X6_here rfl (by decide) (by decide) ⟨by decide, rfl⟩ rfl rfl (Nat.le_of_ble_eq_true rfl) dX6_readNumber_59 ?_
        refine j_bipush F.1 (48) dX6_readNumber_62 (by decide) ?_
        refine j_bipush F.1 (57) dX6_readNumber_64 (by decide) ?_
        refine j_callSi F (k_in) co_X6_in ml_X6_46 st_X6_in in_X6 rc_X6_in rfl (by decide) (by decide) rfl (Nat.le_of_ble_eq_true rfl) dX6_readNumber_66 ?_
        refine j_if_eq F.1 101 dX6_readNumber_69 (by decide) (fun h69 => ?_) (fun h69 => ?_)
        · rw [b2_0] at h69
          have hd : ¬ digB (chr (v 4) ln p) = true := by unfold digB; exact fun z => h69 (of_decide_eq_true z)
          rw [dg_s, if_neg hd, show p - p = 0 from Nat.sub_self p, Nat.add_zero]
          exact fin p dc x (by omega)
        · rw [b2_0, Classical.not_not] at h69
          refine j_bipush F.1 (10) dX6_readNumber_72 (by decide) ?_
          refine j_iload_n F.1 dX6_readNumber_74 rfl ?_
          refine j_imul F.1 dX6_readNumber_75 ?_
          refine j_aload_n F.1 dX6_readNumber_76 rfl ?_
          refine j_callVi F (k_here hl hln (by omega)) co_X6_here ml_X6_179 im_X6_here se_X6_here in_X6 rc_X6_here rfl (by decide) (by decide) ⟨by decide, rfl⟩ rfl rfl (Nat.le_of_ble_eq_true rfl) dX6_readNumber_77 ?_
          refine j_iadd F.1 dX6_readNumber_80 ?_
          refine j_bipush F.1 (48) dX6_readNumber_81 (by decide) ?_
          refine j_isub F.1 dX6_readNumber_83 ?_
          refine j_istore_n F.1 dX6_readNumber_84 (by rw [hn]; decide) ?_
          refine j_iinc F.1 (1) dX6_readNumber_85 (by decide) rfl (by rw [hn]; decide) ?_
          refine j_aload_n F.1 dX6_readNumber_88 rfl ?_
          refine j_dup F.1 dX6_readNumber_89 rfl ?_
          refine j_geti F (k := 15) inX6 rfl (by decide) fl_X6_173 ⟨by decide, rfl⟩ rfl dX6_readNumber_90 ?_
          refine j_iconst F.1 (1) dX6_readNumber_93 (by decide) ?_
          refine j_iadd F.1 dX6_readNumber_94 ?_
          refine j_top (y := nI (p + 1)) (nI_1 p) ?_
          refine j_puti F (k := 15) inX6 tyX6_ok nmX6 rfl (by decide) fl_X6_173 rfl rfl ⟨by decide, rfl⟩ rfl dX6_readNumber_95 ?_
          rw [TM_at]
          refine j_goto F.1 53 dX6_readNumber_98 (by decide) ?_
          refine j_loc [(3, .int (nI (dc + 1))), (2, .int (10 * x + chr (v 4) ln p - 48)), (1, .int 1), (0, .ref (Y.2.1 0))] (by rw [← nI_1]; rfl) ?_
          have e := ih (p + 1) (dc + 1) (10 * x + chr (v 4) ln p - 48) (by omega) (by omega)
          rw [show dc + 1 + ((dg (v 4) ln k (p + 1) (10 * x + chr (v 4) ln p - 48)).1 - (p + 1)) = dc + ((dg (v 4) ln k (p + 1) (10 * x + chr (v 4) ln p - 48)).1 - p) by have := (dg_ge (tx := v 4) (ln := ln) k (p + 1) (10 * x + chr (v 4) ln p - 48)).1; omega] at e
          have hd : digB (chr (v 4) ln p) = true := by unfold digB; exact decide_eq_true h69
          rw [dg_s, if_pos hd]
          exact e
  refine j_aload_n F.1 dX6_readNumber_0 rfl ?_
  refine j_callVi F (k_here hl hln (by omega)) co_X6_here ml_X6_179 im_X6_here se_X6_here in_X6 rc_X6_here rfl (by decide) (by decide) ⟨by decide, rfl⟩ rfl rfl (Nat.le_of_ble_eq_true rfl) dX6_readNumber_1 ?_
  refine j_top (y := 45) h45 ?_
  refine j_bipush F.1 (45) dX6_readNumber_4 (by decide) ?_
  refine j_icmp_ne F.1 13 dX6_readNumber_6 (by decide) (fun h6 => False.elim (by revert h6; decide)) (fun _ => ?_)
  refine j_iconst F.1 (1) dX6_readNumber_9 (by decide) ?_
  refine j_goto F.1 14 dX6_readNumber_10 (by decide) ?_
  refine j_istore_n F.1 dX6_readNumber_14 (by rw [hn]; decide) ?_
  refine j_aload_n F.1 dX6_readNumber_15 rfl ?_
  refine j_iconst F.1 (1) dX6_readNumber_16 (by decide) ?_
  refine j_top (y := bI true) rfl ?_
  refine j_callVv F (k_takes) co_X6_takes ml_X6_182 im_X6_takes se_X6_takes in_X6 rc_X6_takes rfl (by decide) (by decide) ⟨by decide, rfl⟩ rfl rfl (Nat.le_of_ble_eq_true rfl) dX6_readNumber_17 ?_
  rw [show (tk (p, true) true).1 = p + 1 from rfl, show (tk (p, true) true).2 = true from rfl]
  refine j_iload_n F.1 dX6_readNumber_20 rfl ?_
  refine j_if_eq F.1 28 dX6_readNumber_21 (by decide) (fun h21 => False.elim (by revert h21; decide)) (fun _ => ?_)
  refine j_iconst F.1 (0) dX6_readNumber_24 (by decide) ?_
  refine j_goto F.1 42 dX6_readNumber_25 (by decide) ?_
  refine j_istore_n F.1 dX6_readNumber_42 (by rw [hn]; decide) ?_
  refine j_iload_n F.1 dX6_readNumber_43 rfl ?_
  refine j_if_eq F.1 51 dX6_readNumber_44 (by decide) (fun h44 => False.elim (by revert h44; decide)) (fun _ => ?_)
  refine j_iconst F.1 (0) dX6_readNumber_47 (by decide) ?_
  refine j_goto F.1 52 dX6_readNumber_48 (by decide) ?_
  refine j_istore_n F.1 dX6_readNumber_52 (by rw [hn]; decide) ?_
  refine j_loc [(3, .int (nI 0)), (2, .int 0), (1, .int 1), (0, .ref (Y.2.1 0))] rfl ?_
  have e := loop 5 (p + 1) 0 0 rfl (by omega)
  rw [Nat.zero_add] at e
  exact e
set_option maxHeartbeats 4000000 in
set_option maxRecDepth 100000 in
theorem k_readNumP {Y : rcY} {la : Launch} {v : rcM} {p ln : Nat} {rd : Nat → Int32} (hl : v 0 5 = nI ln) (hln : ln ≤ 60) (hp : p ≤ 90) (h45 : ¬ chr (v 4) ln p = 45) (hd : digB (chr (v 4) ln p) = true) (hpl : p < ln) : rcT shM 13 Y la 1 (yX6_readNumber, cX6_readNumber, 4, none) [.ref (Y.2.1 0)] (TM v p true rd) (rV (TM v ((dg (v 4) ln 5 p 0).1) (true && decide (0 < (dg (v 4) ln 5 p 0).1 - p)) (upd rd 2 (((dg (v 4) ln 5 p 0).2))))) := by
  refine rcT.of (by decide +kernel) (Nat.le_of_ble_eq_true rfl) (fun X F hn => ?_)
  have fin : ∀ (q dc : Nat) (x : Int32), dc ≤ 5 → rcJ shM 13 Y X (rV (TM v (q) (true && decide (0 < dc)) (upd rd 2 ((x))))) 101 [(3, .int (nI dc)), (2, .int x), (1, .int 0), (0, .ref (Y.2.1 0))] [] (TM v q true rd) := by
    intro q dc x hdc
    refine j_aload_n F.1 dX6_readNumber_101 rfl ?_
    refine j_aload_n F.1 dX6_readNumber_102 rfl ?_
    refine j_getz F (k := 16) inX6 rfl (by decide) fl_X6_176 ⟨by decide, rfl⟩ rfl dX6_readNumber_103 ?_
    refine j_top (y := 1) rfl ?_
    refine j_if_eq F.1 117 dX6_readNumber_106 (by decide) (fun h106 => False.elim (by revert h106; decide)) (fun _ => ?_)
    refine j_iload_n F.1 dX6_readNumber_109 rfl ?_
    refine j_if_le F.1 117 dX6_readNumber_110 (by decide) (fun h110 => ?_) (fun h110 => ?_)
    · have z : (true && decide (0 < dc)) = false := by
        rcases Nat.eq_zero_or_pos dc with e | e
        · subst e; rfl
        · exact absurd h110 (nI_nle e (by omega))
      refine j_iconst F.1 (0) dX6_readNumber_117 (by decide) ?_
      refine j_top (y := bI (true && decide (0 < dc))) (by rw [z]; rfl) ?_
      refine j_putz F (k := 16) inX6 tyX6_ok nmX6 rfl (by decide) fl_X6_176 rfl rfl ⟨by decide, rfl⟩ rfl (bI_01 _) dX6_readNumber_118 ?_
      rw [TM_fm]
      refine j_aload_n F.1 dX6_readNumber_121 rfl ?_
      refine j_getr F (k := 17) inX6 rfl (by decide) fl_X6_43 ⟨by decide, rfl⟩ rfl dX6_readNumber_122 ?_
      refine j_iconst F.1 (2) dX6_readNumber_125 (by decide) ?_
      refine j_iload_n F.1 dX6_readNumber_126 rfl ?_
      refine j_if_eq F.1 135 dX6_readNumber_127 (by decide) (fun _ => ?_) (fun h127 => False.elim (by revert h127; decide))
      refine j_iload_n F.1 dX6_readNumber_135 rfl ?_
      refine j_iast F ⟨by decide, rfl⟩ rfl (by decide) (by decide) dX6_readNumber_136 ?_
      exact j_vret F dX6_readNumber_137 ((rVe TM_rd))
    · have z : (true && decide (0 < dc)) = true := by
        rcases Nat.eq_zero_or_pos dc with e | e
        · subst e; exact absurd (by decide) h110
        · simp [e]
      refine j_iconst F.1 (1) dX6_readNumber_113 (by decide) ?_
      refine j_goto F.1 118 dX6_readNumber_114 (by decide) ?_
      refine j_top (y := bI (true && decide (0 < dc))) (by rw [z]; rfl) ?_
      refine j_putz F (k := 16) inX6 tyX6_ok nmX6 rfl (by decide) fl_X6_176 rfl rfl ⟨by decide, rfl⟩ rfl (bI_01 _) dX6_readNumber_118 ?_
      rw [TM_fm]
      refine j_aload_n F.1 dX6_readNumber_121 rfl ?_
      refine j_getr F (k := 17) inX6 rfl (by decide) fl_X6_43 ⟨by decide, rfl⟩ rfl dX6_readNumber_122 ?_
      refine j_iconst F.1 (2) dX6_readNumber_125 (by decide) ?_
      refine j_iload_n F.1 dX6_readNumber_126 rfl ?_
      refine j_if_eq F.1 135 dX6_readNumber_127 (by decide) (fun _ => ?_) (fun h127 => False.elim (by revert h127; decide))
      refine j_iload_n F.1 dX6_readNumber_135 rfl ?_
      refine j_iast F ⟨by decide, rfl⟩ rfl (by decide) (by decide) dX6_readNumber_136 ?_
      exact j_vret F dX6_readNumber_137 ((rVe TM_rd))
  have loop : ∀ (k p dc : Nat) (x : Int32), dc + k = 5 → p ≤ 95 + dc → rcJ shM 13 Y X (rV (TM v ((dg (v 4) ln k p x).1) (true && decide (0 < dc + ((dg (v 4) ln k p x).1 - p))) (upd rd 2 (((dg (v 4) ln k p x).2))))) 53 [(3, .int (nI dc)), (2, .int x), (1, .int 0), (0, .ref (Y.2.1 0))] [] (TM v p true rd) := by
    intro k
    induction k with
    | zero =>
      intro p dc x hk hp
      refine j_iload_n F.1 dX6_readNumber_53 rfl ?_
      refine j_iconst F.1 (5) dX6_readNumber_54 (by decide) ?_
      refine j_icmp_ge F.1 101 dX6_readNumber_55 (by decide) (fun h55 => ?_) (fun h55 => ?_)
      · have e := fin p dc x (by omega)
        rw [show (dg (v 4) ln 0 p x) = (p, x) from rfl, Nat.sub_self, Nat.add_zero]
        exact e
      · exact absurd (nI_le (a := 5) (b := dc) (by omega) (by omega)) h55
    | succ k ih =>
      intro p dc x hk hp
      refine j_iload_n F.1 dX6_readNumber_53 rfl ?_
      refine j_iconst F.1 (5) dX6_readNumber_54 (by decide) ?_
      
      refine j_icmp_ge F.1 101 dX6_readNumber_55 (by decide) (fun h55 => ?_) (fun h55 => ?_)
      · exact absurd h55 (Int32.not_le.mpr (nI_lt (a := dc) (b := 5) (by omega) (by omega)))
      · refine j_aload_n F.1 dX6_readNumber_58 rfl ?_
        refine j_callVi F (k_here hl hln (by omega)) co_X6_here ml_X6_179 im_X6_here se_X6_here in_X6 rc_X6_here rfl (by decide) (by decide) ⟨by decide, rfl⟩ rfl rfl (Nat.le_of_ble_eq_true rfl) dX6_readNumber_59 ?_
        refine j_bipush F.1 (48) dX6_readNumber_62 (by decide) ?_
        refine j_bipush F.1 (57) dX6_readNumber_64 (by decide) ?_
        refine j_callSi F (k_in) co_X6_in ml_X6_46 st_X6_in in_X6 rc_X6_in rfl (by decide) (by decide) rfl (Nat.le_of_ble_eq_true rfl) dX6_readNumber_66 ?_
        refine j_if_eq F.1 101 dX6_readNumber_69 (by decide) (fun h69 => ?_) (fun h69 => ?_)
        · rw [b2_0] at h69
          have hd : ¬ digB (chr (v 4) ln p) = true := by unfold digB; exact fun z => h69 (of_decide_eq_true z)
          rw [dg_s, if_neg hd, show p - p = 0 from Nat.sub_self p, Nat.add_zero]
          exact fin p dc x (by omega)
        · rw [b2_0, Classical.not_not] at h69
          refine j_bipush F.1 (10) dX6_readNumber_72 (by decide) ?_
          refine j_iload_n F.1 dX6_readNumber_74 rfl ?_
          refine j_imul F.1 dX6_readNumber_75 ?_
          refine j_aload_n F.1 dX6_readNumber_76 rfl ?_
          refine j_callVi F (k_here hl hln (by omega)) co_X6_here ml_X6_179 im_X6_here se_X6_here in_X6 rc_X6_here rfl (by decide) (by decide) ⟨by decide, rfl⟩ rfl rfl (Nat.le_of_ble_eq_true rfl) dX6_readNumber_77 ?_
          refine j_iadd F.1 dX6_readNumber_80 ?_
          refine j_bipush F.1 (48) dX6_readNumber_81 (by decide) ?_
          refine j_isub F.1 dX6_readNumber_83 ?_
          refine j_istore_n F.1 dX6_readNumber_84 (by rw [hn]; decide) ?_
          refine j_iinc F.1 (1) dX6_readNumber_85 (by decide) rfl (by rw [hn]; decide) ?_
          refine j_aload_n F.1 dX6_readNumber_88 rfl ?_
          refine j_dup F.1 dX6_readNumber_89 rfl ?_
          refine j_geti F (k := 15) inX6 rfl (by decide) fl_X6_173 ⟨by decide, rfl⟩ rfl dX6_readNumber_90 ?_
          refine j_iconst F.1 (1) dX6_readNumber_93 (by decide) ?_
          refine j_iadd F.1 dX6_readNumber_94 ?_
          refine j_top (y := nI (p + 1)) (nI_1 p) ?_
          refine j_puti F (k := 15) inX6 tyX6_ok nmX6 rfl (by decide) fl_X6_173 rfl rfl ⟨by decide, rfl⟩ rfl dX6_readNumber_95 ?_
          rw [TM_at]
          refine j_goto F.1 53 dX6_readNumber_98 (by decide) ?_
          refine j_loc [(3, .int (nI (dc + 1))), (2, .int (10 * x + chr (v 4) ln p - 48)), (1, .int 0), (0, .ref (Y.2.1 0))] (by rw [← nI_1]; rfl) ?_
          have e := ih (p + 1) (dc + 1) (10 * x + chr (v 4) ln p - 48) (by omega) (by omega)
          rw [show dc + 1 + ((dg (v 4) ln k (p + 1) (10 * x + chr (v 4) ln p - 48)).1 - (p + 1)) = dc + ((dg (v 4) ln k (p + 1) (10 * x + chr (v 4) ln p - 48)).1 - p) by have := (dg_ge (tx := v 4) (ln := ln) k (p + 1) (10 * x + chr (v 4) ln p - 48)).1; omega] at e
          have hd : digB (chr (v 4) ln p) = true := by unfold digB; exact decide_eq_true h69
          rw [dg_s, if_pos hd]
          exact e
  refine j_aload_n F.1 dX6_readNumber_0 rfl ?_
  refine j_callVi F (k_here hl hln (by omega)) co_X6_here ml_X6_179 im_X6_here se_X6_here in_X6 rc_X6_here rfl (by decide) (by decide) ⟨by decide, rfl⟩ rfl rfl (Nat.le_of_ble_eq_true rfl) dX6_readNumber_1 ?_
  
  refine j_bipush F.1 (45) dX6_readNumber_4 (by decide) ?_
  refine j_icmp_ne F.1 13 dX6_readNumber_6 (by decide) (fun h6 => ?_) (fun h6 => ?_)
  · refine j_iconst F.1 (0) dX6_readNumber_13 (by decide) ?_
    refine j_istore_n F.1 dX6_readNumber_14 (by rw [hn]; decide) ?_
    refine j_aload_n F.1 dX6_readNumber_15 rfl ?_
    refine j_iconst F.1 (1) dX6_readNumber_16 (by decide) ?_
    refine j_top (y := bI true) rfl ?_
    refine j_callVv F (k_takes) co_X6_takes ml_X6_182 im_X6_takes se_X6_takes in_X6 rc_X6_takes rfl (by decide) (by decide) ⟨by decide, rfl⟩ rfl rfl (Nat.le_of_ble_eq_true rfl) dX6_readNumber_17 ?_
    rw [show (tk (p, true) true).1 = p + 1 from rfl, show (tk (p, true) true).2 = true from rfl]
    refine j_iload_n F.1 dX6_readNumber_20 rfl ?_
    refine j_if_eq F.1 28 dX6_readNumber_21 (by decide) (fun _ => ?_) (fun h21 => False.elim (by revert h21; decide))
    refine j_aload_n F.1 dX6_readNumber_28 rfl ?_
    refine j_getr F (k := 4) inX6 rfl (by decide) fl_X6_19 ⟨by decide, rfl⟩ rfl dX6_readNumber_29 ?_
    refine j_aload_n F.1 dX6_readNumber_32 rfl ?_
    refine j_geti F (k := 15) inX6 rfl (by decide) fl_X6_173 ⟨by decide, rfl⟩ rfl dX6_readNumber_33 ?_
    refine j_iconst F.1 (1) dX6_readNumber_36 (by decide) ?_
    refine j_isub F.1 dX6_readNumber_37 ?_
    refine j_iald F ⟨by decide, rfl⟩ (by rw [TM_15, nI_pred]) (by omega) (by decide) dX6_readNumber_38 ?_
    refine j_bipush F.1 (48) dX6_readNumber_39 (by decide) ?_
    refine j_isub F.1 dX6_readNumber_41 ?_
    refine j_top (y := 10 * 0 + chr (v 4) ln p - 48) (by rw [chr_tx hpl, show (10 : Int32) * 0 = 0 from rfl, Int32.zero_add]; rfl) ?_
    refine j_istore_n F.1 dX6_readNumber_42 (by rw [hn]; decide) ?_
    refine j_iload_n F.1 dX6_readNumber_43 rfl ?_
    refine j_if_eq F.1 51 dX6_readNumber_44 (by decide) (fun _ => ?_) (fun h44 => False.elim (by revert h44; decide))
    refine j_iconst F.1 (1) dX6_readNumber_51 (by decide) ?_
    refine j_istore_n F.1 dX6_readNumber_52 (by rw [hn]; decide) ?_
    refine j_loc [(3, .int (nI 1)), (2, .int (10 * 0 + chr (v 4) ln p - 48)), (1, .int 0), (0, .ref (Y.2.1 0))] rfl ?_
    have e := loop 4 (p + 1) 1 (10 * 0 + chr (v 4) ln p - 48) rfl (by omega)
    rw [show 1 + ((dg (v 4) ln 4 (p + 1) (10 * 0 + chr (v 4) ln p - 48)).1 - (p + 1)) = (dg (v 4) ln 4 (p + 1) (10 * 0 + chr (v 4) ln p - 48)).1 - p by have := (dg_ge (tx := v 4) (ln := ln) 4 (p + 1) (10 * 0 + chr (v 4) ln p - 48)).1; omega, show dg (v 4) ln 4 (p + 1) (10 * 0 + chr (v 4) ln p - 48) = dg (v 4) ln 5 p 0 from (by rw [dg_s (k := 4), if_pos hd] : dg (v 4) ln 5 p 0 = _).symm] at e
    exact e
  · exact absurd h6 h45
def RF (tx : Nat → Int32) (ln : Nat) (s : Nat × Bool) (rd : Nat → Int32) : (Nat × Bool) × (Nat → Int32) :=
  let s1 := tk s (letB (chr tx ln s.1))
  let s2 := tk s1 (decide (0 < kf (chr tx ln s1.1)))
  let s3 := tk s2 (letB (chr tx ln s2.1))
  let rd3 := upd (upd (upd rd 3 (chr tx ln s.1 - 97)) 1 (kf (chr tx ln s1.1))) 4 (chr tx ln s2.1 - 97)
  if kf (chr tx ln s1.1) = 5 then
    let s4 := tk s3 (decide (chr tx ln s3.1 = 58))
    (tk s4 (letB (chr tx ln s4.1)), upd rd3 5 (chr tx ln s4.1 - 97))
  else (s3, rd3)
theorem RF_le {tx : Nat → Int32} {ln : Nat} {s : Nat × Bool} {rd : Nat → Int32} : (RF tx ln s rd).1.1 ≤ s.1 + 5 := by
  unfold RF
  dsimp only
  have h1 := tk_le (s := s) (t := letB (chr tx ln s.1))
  generalize tk s (letB (chr tx ln s.1)) = s1 at *
  have h2 := tk_le (s := s1) (t := decide (0 < kf (chr tx ln s1.1)))
  generalize tk s1 (decide (0 < kf (chr tx ln s1.1))) = s2 at *
  have h3 := tk_le (s := s2) (t := letB (chr tx ln s2.1))
  generalize tk s2 (letB (chr tx ln s2.1)) = s3 at *
  split
  · have h4 := tk_le (s := s3) (t := decide (chr tx ln s3.1 = 58))
    generalize tk s3 (decide (chr tx ln s3.1 = 58)) = s4 at *
    have h5 := tk_le (s := s4) (t := letB (chr tx ln s4.1))
    dsimp only
    omega
  · dsimp only
    omega
set_option maxHeartbeats 4000000 in
set_option maxRecDepth 100000 in
theorem k_readFormula {Y : rcY} {la : Launch} {v : rcM} {p ln : Nat} {o : Bool} {rd : Nat → Int32} (hl : v 0 5 = nI ln) (hln : ln ≤ 60) (hp : p ≤ 90) : rcT shM 13 Y la 2 (yX6_readFormula, cX6_readFormula, 2, none) [.ref (Y.2.1 0)] (TM v p o rd) (rV (TM v (RF (v 4) ln (p, o) rd).1.1 (RF (v 4) ln (p, o) rd).1.2 (RF (v 4) ln (p, o) rd).2)) := by
  refine rcT.of (by decide +kernel) (Nat.le_of_ble_eq_true rfl) (fun X F hn => ?_)
  refine j_aload_n F.1 dX6_readFormula_0 rfl ?_
  refine j_getr F (k := 17) inX6 rfl (by decide) fl_X6_43 ⟨by decide, rfl⟩ rfl dX6_readFormula_1 ?_
  refine j_iconst F.1 (3) dX6_readFormula_4 (by decide) ?_
  refine j_aload_n F.1 dX6_readFormula_5 rfl ?_
  refine j_callVi F (k_readLetter hl hln (by omega)) co_X6_readLetter ml_X6_186 im_X6_readLetter se_X6_readLetter in_X6 rc_X6_readLetter rfl (by decide) (by decide) ⟨by decide, rfl⟩ rfl rfl (Nat.le_of_ble_eq_true rfl) dX6_readFormula_6 ?_
  obtain ⟨p1, o1, e1, b1⟩ : ∃ p1 o1, tk (p, o) (letB (chr (v 4) ln p)) = (p1, o1) ∧ p1 ≤ p + 1 := ⟨_, _, rfl, tk_le⟩
  rw [e1]
  refine j_iast F ⟨by decide, rfl⟩ rfl (by decide) (by decide) dX6_readFormula_9 ?_
  rw [TM_rd]
  refine j_aload_n F.1 dX6_readFormula_10 rfl ?_
  refine j_callVi F (k_here hl hln (by omega)) co_X6_here ml_X6_179 im_X6_here se_X6_here in_X6 rc_X6_here rfl (by decide) (by decide) ⟨by decide, rfl⟩ rfl rfl (Nat.le_of_ble_eq_true rfl) dX6_readFormula_11 ?_
  refine j_callSi F (k_kindOf) co_X6_kindOf ml_X6_189 st_X6_kindOf in_X6 rc_X6_kindOf rfl (by decide) (by decide) rfl (Nat.le_of_ble_eq_true rfl) dX6_readFormula_14 ?_
  refine j_istore_n F.1 dX6_readFormula_17 (by rw [hn]; decide) ?_
  refine j_aload_n F.1 dX6_readFormula_18 rfl ?_
  refine j_iload_n F.1 dX6_readFormula_19 rfl ?_
  refine j_if_le F.1 27 dX6_readFormula_20 (by decide) (fun h20 => ?_) (fun h20 => ?_)
  · have z : decide (0 < kf (chr (v 4) ln p1)) = false := decide_eq_false (Int32.not_lt.mpr h20)
    refine j_iconst F.1 (0) dX6_readFormula_27 (by decide) ?_
    refine j_top (y := bI (decide (0 < kf (chr (v 4) ln p1)))) (by rw [z]; rfl) ?_
    refine j_callVv F (k_takes) co_X6_takes ml_X6_182 im_X6_takes se_X6_takes in_X6 rc_X6_takes rfl (by decide) (by decide) ⟨by decide, rfl⟩ rfl rfl (Nat.le_of_ble_eq_true rfl) dX6_readFormula_28 ?_
    obtain ⟨p2, o2, e2, b2⟩ : ∃ p2 o2, tk (p1, o1) (decide (0 < kf (chr (v 4) ln p1))) = (p2, o2) ∧ p2 ≤ p1 + 1 := ⟨_, _, rfl, tk_le⟩
    rw [e2]
    refine j_aload_n F.1 dX6_readFormula_31 rfl ?_
    refine j_getr F (k := 17) inX6 rfl (by decide) fl_X6_43 ⟨by decide, rfl⟩ rfl dX6_readFormula_32 ?_
    refine j_iconst F.1 (1) dX6_readFormula_35 (by decide) ?_
    refine j_iload_n F.1 dX6_readFormula_36 rfl ?_
    refine j_iast F ⟨by decide, rfl⟩ rfl (by decide) (by decide) dX6_readFormula_37 ?_
    rw [TM_rd]
    refine j_aload_n F.1 dX6_readFormula_38 rfl ?_
    refine j_getr F (k := 17) inX6 rfl (by decide) fl_X6_43 ⟨by decide, rfl⟩ rfl dX6_readFormula_39 ?_
    refine j_iconst F.1 (4) dX6_readFormula_42 (by decide) ?_
    refine j_aload_n F.1 dX6_readFormula_43 rfl ?_
    refine j_callVi F (k_readLetter hl hln (by omega)) co_X6_readLetter ml_X6_186 im_X6_readLetter se_X6_readLetter in_X6 rc_X6_readLetter rfl (by decide) (by decide) ⟨by decide, rfl⟩ rfl rfl (Nat.le_of_ble_eq_true rfl) dX6_readFormula_44 ?_
    obtain ⟨p3, o3, e3, b3⟩ : ∃ p3 o3, tk (p2, o2) (letB (chr (v 4) ln p2)) = (p3, o3) ∧ p3 ≤ p2 + 1 := ⟨_, _, rfl, tk_le⟩
    rw [e3]
    refine j_iast F ⟨by decide, rfl⟩ rfl (by decide) (by decide) dX6_readFormula_47 ?_
    rw [TM_rd]
    refine j_iload_n F.1 dX6_readFormula_48 rfl ?_
    refine j_iconst F.1 (5) dX6_readFormula_49 (by decide) ?_
    refine j_icmp_ne F.1 81 dX6_readFormula_50 (by decide) (fun h50 => ?_) (fun h50 => ?_)
    · have fin : TM v p3 o3 (upd (upd (upd rd 3 (chr (v 4) ln p - 97)) 1 (kf (chr (v 4) ln p1))) 4 (chr (v 4) ln p2 - 97)) = TM v (RF (v 4) ln (p, o) rd).1.1 (RF (v 4) ln (p, o) rd).1.2 (RF (v 4) ln (p, o) rd).2 := by
        unfold RF
        simp only [e1, e2, e3]
        rw [if_neg h50]
      
      exact j_vret F dX6_readFormula_81 ((rVe fin))
    · refine j_aload_n F.1 dX6_readFormula_53 rfl ?_
      refine j_aload_n F.1 dX6_readFormula_54 rfl ?_
      refine j_callVi F (k_here hl hln (by omega)) co_X6_here ml_X6_179 im_X6_here se_X6_here in_X6 rc_X6_here rfl (by decide) (by decide) ⟨by decide, rfl⟩ rfl rfl (Nat.le_of_ble_eq_true rfl) dX6_readFormula_55 ?_
      refine j_bipush F.1 (58) dX6_readFormula_58 (by decide) ?_
      refine j_icmp_ne F.1 67 dX6_readFormula_60 (by decide) (fun h60 => ?_) (fun h60 => ?_)
      · have z5 : decide (chr (v 4) ln p3 = 58) = false := decide_eq_false h60
        refine j_iconst F.1 (0) dX6_readFormula_67 (by decide) ?_
        refine j_top (y := bI (decide (chr (v 4) ln p3 = 58))) (by rw [z5]; rfl) ?_
        refine j_callVv F (k_takes) co_X6_takes ml_X6_182 im_X6_takes se_X6_takes in_X6 rc_X6_takes rfl (by decide) (by decide) ⟨by decide, rfl⟩ rfl rfl (Nat.le_of_ble_eq_true rfl) dX6_readFormula_68 ?_
        obtain ⟨p4, o4, e4, b4⟩ : ∃ p4 o4, tk (p3, o3) (decide (chr (v 4) ln p3 = 58)) = (p4, o4) ∧ p4 ≤ p3 + 1 := ⟨_, _, rfl, tk_le⟩
        rw [e4]
        refine j_aload_n F.1 dX6_readFormula_71 rfl ?_
        refine j_getr F (k := 17) inX6 rfl (by decide) fl_X6_43 ⟨by decide, rfl⟩ rfl dX6_readFormula_72 ?_
        refine j_iconst F.1 (5) dX6_readFormula_75 (by decide) ?_
        refine j_aload_n F.1 dX6_readFormula_76 rfl ?_
        refine j_callVi F (k_readLetter hl hln (by omega)) co_X6_readLetter ml_X6_186 im_X6_readLetter se_X6_readLetter in_X6 rc_X6_readLetter rfl (by decide) (by decide) ⟨by decide, rfl⟩ rfl rfl (Nat.le_of_ble_eq_true rfl) dX6_readFormula_77 ?_
        obtain ⟨p5, o5, e5, b5⟩ : ∃ p5 o5, tk (p4, o4) (letB (chr (v 4) ln p4)) = (p5, o5) ∧ p5 ≤ p4 + 1 := ⟨_, _, rfl, tk_le⟩
        rw [e5]
        have fin : rcu (TM v p5 o5 (upd (upd (upd rd 3 (chr (v 4) ln p - 97)) 1 (kf (chr (v 4) ln p1))) 4 (chr (v 4) ln p2 - 97))) 12 5 (chr (v 4) ln p4 - 97) = TM v (RF (v 4) ln (p, o) rd).1.1 (RF (v 4) ln (p, o) rd).1.2 (RF (v 4) ln (p, o) rd).2 := by
          rw [TM_rd]
          unfold RF
          simp only [e1, e2, e3]
          rw [if_pos h50]
          simp only [e4, e5]
        refine j_iast F ⟨by decide, rfl⟩ rfl (by decide) (by decide) dX6_readFormula_80 ?_
        
        exact j_vret F dX6_readFormula_81 ((rVe fin))
      · have z5 : decide (chr (v 4) ln p3 = 58) = true := decide_eq_true h60
        refine j_iconst F.1 (1) dX6_readFormula_63 (by decide) ?_
        refine j_goto F.1 68 dX6_readFormula_64 (by decide) ?_
        refine j_top (y := bI (decide (chr (v 4) ln p3 = 58))) (by rw [z5]; rfl) ?_
        refine j_callVv F (k_takes) co_X6_takes ml_X6_182 im_X6_takes se_X6_takes in_X6 rc_X6_takes rfl (by decide) (by decide) ⟨by decide, rfl⟩ rfl rfl (Nat.le_of_ble_eq_true rfl) dX6_readFormula_68 ?_
        obtain ⟨p4, o4, e4, b4⟩ : ∃ p4 o4, tk (p3, o3) (decide (chr (v 4) ln p3 = 58)) = (p4, o4) ∧ p4 ≤ p3 + 1 := ⟨_, _, rfl, tk_le⟩
        rw [e4]
        refine j_aload_n F.1 dX6_readFormula_71 rfl ?_
        refine j_getr F (k := 17) inX6 rfl (by decide) fl_X6_43 ⟨by decide, rfl⟩ rfl dX6_readFormula_72 ?_
        refine j_iconst F.1 (5) dX6_readFormula_75 (by decide) ?_
        refine j_aload_n F.1 dX6_readFormula_76 rfl ?_
        refine j_callVi F (k_readLetter hl hln (by omega)) co_X6_readLetter ml_X6_186 im_X6_readLetter se_X6_readLetter in_X6 rc_X6_readLetter rfl (by decide) (by decide) ⟨by decide, rfl⟩ rfl rfl (Nat.le_of_ble_eq_true rfl) dX6_readFormula_77 ?_
        obtain ⟨p5, o5, e5, b5⟩ : ∃ p5 o5, tk (p4, o4) (letB (chr (v 4) ln p4)) = (p5, o5) ∧ p5 ≤ p4 + 1 := ⟨_, _, rfl, tk_le⟩
        rw [e5]
        have fin : rcu (TM v p5 o5 (upd (upd (upd rd 3 (chr (v 4) ln p - 97)) 1 (kf (chr (v 4) ln p1))) 4 (chr (v 4) ln p2 - 97))) 12 5 (chr (v 4) ln p4 - 97) = TM v (RF (v 4) ln (p, o) rd).1.1 (RF (v 4) ln (p, o) rd).1.2 (RF (v 4) ln (p, o) rd).2 := by
          rw [TM_rd]
          unfold RF
          simp only [e1, e2, e3]
          rw [if_pos h50]
          simp only [e4, e5]
        refine j_iast F ⟨by decide, rfl⟩ rfl (by decide) (by decide) dX6_readFormula_80 ?_
        
        exact j_vret F dX6_readFormula_81 ((rVe fin))
  · have z : decide (0 < kf (chr (v 4) ln p1)) = true := decide_eq_true (Int32.not_le.mp h20)
    refine j_iconst F.1 (1) dX6_readFormula_23 (by decide) ?_
    refine j_goto F.1 28 dX6_readFormula_24 (by decide) ?_
    refine j_top (y := bI (decide (0 < kf (chr (v 4) ln p1)))) (by rw [z]; rfl) ?_
    refine j_callVv F (k_takes) co_X6_takes ml_X6_182 im_X6_takes se_X6_takes in_X6 rc_X6_takes rfl (by decide) (by decide) ⟨by decide, rfl⟩ rfl rfl (Nat.le_of_ble_eq_true rfl) dX6_readFormula_28 ?_
    obtain ⟨p2, o2, e2, b2⟩ : ∃ p2 o2, tk (p1, o1) (decide (0 < kf (chr (v 4) ln p1))) = (p2, o2) ∧ p2 ≤ p1 + 1 := ⟨_, _, rfl, tk_le⟩
    rw [e2]
    refine j_aload_n F.1 dX6_readFormula_31 rfl ?_
    refine j_getr F (k := 17) inX6 rfl (by decide) fl_X6_43 ⟨by decide, rfl⟩ rfl dX6_readFormula_32 ?_
    refine j_iconst F.1 (1) dX6_readFormula_35 (by decide) ?_
    refine j_iload_n F.1 dX6_readFormula_36 rfl ?_
    refine j_iast F ⟨by decide, rfl⟩ rfl (by decide) (by decide) dX6_readFormula_37 ?_
    rw [TM_rd]
    refine j_aload_n F.1 dX6_readFormula_38 rfl ?_
    refine j_getr F (k := 17) inX6 rfl (by decide) fl_X6_43 ⟨by decide, rfl⟩ rfl dX6_readFormula_39 ?_
    refine j_iconst F.1 (4) dX6_readFormula_42 (by decide) ?_
    refine j_aload_n F.1 dX6_readFormula_43 rfl ?_
    refine j_callVi F (k_readLetter hl hln (by omega)) co_X6_readLetter ml_X6_186 im_X6_readLetter se_X6_readLetter in_X6 rc_X6_readLetter rfl (by decide) (by decide) ⟨by decide, rfl⟩ rfl rfl (Nat.le_of_ble_eq_true rfl) dX6_readFormula_44 ?_
    obtain ⟨p3, o3, e3, b3⟩ : ∃ p3 o3, tk (p2, o2) (letB (chr (v 4) ln p2)) = (p3, o3) ∧ p3 ≤ p2 + 1 := ⟨_, _, rfl, tk_le⟩
    rw [e3]
    refine j_iast F ⟨by decide, rfl⟩ rfl (by decide) (by decide) dX6_readFormula_47 ?_
    rw [TM_rd]
    refine j_iload_n F.1 dX6_readFormula_48 rfl ?_
    refine j_iconst F.1 (5) dX6_readFormula_49 (by decide) ?_
    refine j_icmp_ne F.1 81 dX6_readFormula_50 (by decide) (fun h50 => ?_) (fun h50 => ?_)
    · have fin : TM v p3 o3 (upd (upd (upd rd 3 (chr (v 4) ln p - 97)) 1 (kf (chr (v 4) ln p1))) 4 (chr (v 4) ln p2 - 97)) = TM v (RF (v 4) ln (p, o) rd).1.1 (RF (v 4) ln (p, o) rd).1.2 (RF (v 4) ln (p, o) rd).2 := by
        unfold RF
        simp only [e1, e2, e3]
        rw [if_neg h50]
      
      exact j_vret F dX6_readFormula_81 ((rVe fin))
    · refine j_aload_n F.1 dX6_readFormula_53 rfl ?_
      refine j_aload_n F.1 dX6_readFormula_54 rfl ?_
      refine j_callVi F (k_here hl hln (by omega)) co_X6_here ml_X6_179 im_X6_here se_X6_here in_X6 rc_X6_here rfl (by decide) (by decide) ⟨by decide, rfl⟩ rfl rfl (Nat.le_of_ble_eq_true rfl) dX6_readFormula_55 ?_
      refine j_bipush F.1 (58) dX6_readFormula_58 (by decide) ?_
      refine j_icmp_ne F.1 67 dX6_readFormula_60 (by decide) (fun h60 => ?_) (fun h60 => ?_)
      · have z5 : decide (chr (v 4) ln p3 = 58) = false := decide_eq_false h60
        refine j_iconst F.1 (0) dX6_readFormula_67 (by decide) ?_
        refine j_top (y := bI (decide (chr (v 4) ln p3 = 58))) (by rw [z5]; rfl) ?_
        refine j_callVv F (k_takes) co_X6_takes ml_X6_182 im_X6_takes se_X6_takes in_X6 rc_X6_takes rfl (by decide) (by decide) ⟨by decide, rfl⟩ rfl rfl (Nat.le_of_ble_eq_true rfl) dX6_readFormula_68 ?_
        obtain ⟨p4, o4, e4, b4⟩ : ∃ p4 o4, tk (p3, o3) (decide (chr (v 4) ln p3 = 58)) = (p4, o4) ∧ p4 ≤ p3 + 1 := ⟨_, _, rfl, tk_le⟩
        rw [e4]
        refine j_aload_n F.1 dX6_readFormula_71 rfl ?_
        refine j_getr F (k := 17) inX6 rfl (by decide) fl_X6_43 ⟨by decide, rfl⟩ rfl dX6_readFormula_72 ?_
        refine j_iconst F.1 (5) dX6_readFormula_75 (by decide) ?_
        refine j_aload_n F.1 dX6_readFormula_76 rfl ?_
        refine j_callVi F (k_readLetter hl hln (by omega)) co_X6_readLetter ml_X6_186 im_X6_readLetter se_X6_readLetter in_X6 rc_X6_readLetter rfl (by decide) (by decide) ⟨by decide, rfl⟩ rfl rfl (Nat.le_of_ble_eq_true rfl) dX6_readFormula_77 ?_
        obtain ⟨p5, o5, e5, b5⟩ : ∃ p5 o5, tk (p4, o4) (letB (chr (v 4) ln p4)) = (p5, o5) ∧ p5 ≤ p4 + 1 := ⟨_, _, rfl, tk_le⟩
        rw [e5]
        have fin : rcu (TM v p5 o5 (upd (upd (upd rd 3 (chr (v 4) ln p - 97)) 1 (kf (chr (v 4) ln p1))) 4 (chr (v 4) ln p2 - 97))) 12 5 (chr (v 4) ln p4 - 97) = TM v (RF (v 4) ln (p, o) rd).1.1 (RF (v 4) ln (p, o) rd).1.2 (RF (v 4) ln (p, o) rd).2 := by
          rw [TM_rd]
          unfold RF
          simp only [e1, e2, e3]
          rw [if_pos h50]
          simp only [e4, e5]
        refine j_iast F ⟨by decide, rfl⟩ rfl (by decide) (by decide) dX6_readFormula_80 ?_
        
        exact j_vret F dX6_readFormula_81 ((rVe fin))
      · have z5 : decide (chr (v 4) ln p3 = 58) = true := decide_eq_true h60
        refine j_iconst F.1 (1) dX6_readFormula_63 (by decide) ?_
        refine j_goto F.1 68 dX6_readFormula_64 (by decide) ?_
        refine j_top (y := bI (decide (chr (v 4) ln p3 = 58))) (by rw [z5]; rfl) ?_
        refine j_callVv F (k_takes) co_X6_takes ml_X6_182 im_X6_takes se_X6_takes in_X6 rc_X6_takes rfl (by decide) (by decide) ⟨by decide, rfl⟩ rfl rfl (Nat.le_of_ble_eq_true rfl) dX6_readFormula_68 ?_
        obtain ⟨p4, o4, e4, b4⟩ : ∃ p4 o4, tk (p3, o3) (decide (chr (v 4) ln p3 = 58)) = (p4, o4) ∧ p4 ≤ p3 + 1 := ⟨_, _, rfl, tk_le⟩
        rw [e4]
        refine j_aload_n F.1 dX6_readFormula_71 rfl ?_
        refine j_getr F (k := 17) inX6 rfl (by decide) fl_X6_43 ⟨by decide, rfl⟩ rfl dX6_readFormula_72 ?_
        refine j_iconst F.1 (5) dX6_readFormula_75 (by decide) ?_
        refine j_aload_n F.1 dX6_readFormula_76 rfl ?_
        refine j_callVi F (k_readLetter hl hln (by omega)) co_X6_readLetter ml_X6_186 im_X6_readLetter se_X6_readLetter in_X6 rc_X6_readLetter rfl (by decide) (by decide) ⟨by decide, rfl⟩ rfl rfl (Nat.le_of_ble_eq_true rfl) dX6_readFormula_77 ?_
        obtain ⟨p5, o5, e5, b5⟩ : ∃ p5 o5, tk (p4, o4) (letB (chr (v 4) ln p4)) = (p5, o5) ∧ p5 ≤ p4 + 1 := ⟨_, _, rfl, tk_le⟩
        rw [e5]
        have fin : rcu (TM v p5 o5 (upd (upd (upd rd 3 (chr (v 4) ln p - 97)) 1 (kf (chr (v 4) ln p1))) 4 (chr (v 4) ln p2 - 97))) 12 5 (chr (v 4) ln p4 - 97) = TM v (RF (v 4) ln (p, o) rd).1.1 (RF (v 4) ln (p, o) rd).1.2 (RF (v 4) ln (p, o) rd).2 := by
          rw [TM_rd]
          unfold RF
          simp only [e1, e2, e3]
          rw [if_pos h50]
          simp only [e4, e5]
        refine j_iast F ⟨by decide, rfl⟩ rfl (by decide) (by decide) dX6_readFormula_80 ?_
        
        exact j_vret F dX6_readFormula_81 ((rVe fin))
/-- the places 1 to 5 of what is read laid to 0, as far as t -/
def zs (t : Nat) (rd : Nat → Int32) : Nat → Int32 := fun k => if 1 ≤ k ∧ k < t then 0 else rd k
theorem zs_1 {rd : Nat → Int32} : zs 1 rd = rd := by
  funext k
  unfold zs
  rw [if_neg (by omega)]
theorem zs_s {t : Nat} {rd : Nat → Int32} (h : 1 ≤ t) : upd (zs t rd) t 0 = zs (t + 1) rd := by
  funext k
  unfold upd zs
  by_cases e : k = t
  · rw [if_pos e, if_pos (by omega)]
  · rw [if_neg e]
    by_cases h2 : 1 ≤ k ∧ k < t
    · rw [if_pos h2, if_pos (by omega)]
    · rw [if_neg h2, if_neg (by omega)]
def RN (tx : Nat → Int32) (ln p : Nat) (rd : Nat → Int32) : (Nat × Bool) × (Nat → Int32) :=
  if chr tx ln p = 45 then (((dg tx ln 5 (p + 1) 0).1, decide (0 < (dg tx ln 5 (p + 1) 0).1 - (p + 1))), upd rd 2 (-(dg tx ln 5 (p + 1) 0).2))
  else (((dg tx ln 5 p 0).1, decide (0 < (dg tx ln 5 p 0).1 - p)), upd rd 2 (dg tx ln 5 p 0).2)
theorem RN_le {tx : Nat → Int32} {ln p : Nat} {rd : Nat → Int32} : (RN tx ln p rd).1.1 ≤ p + 6 := by
  unfold RN
  split
  · have := (dg_ge (tx := tx) (ln := ln) 5 (p + 1) 0).2
    dsimp only
    omega
  · have := (dg_ge (tx := tx) (ln := ln) 5 p 0).2
    dsimp only
    omega
/-- what follows the first two characters -/
def RB (tx : Nat → Int32) (ln : Nat) (s : Nat × Bool) (rd : Nat → Int32) : (Nat × Bool) × (Nat → Int32) :=
  if s.2 = true ∧ (chr tx ln s.1 = 45 ∨ digB (chr tx ln s.1) = true) then RN tx ln s.1 rd else RF tx ln s rd
theorem RB_le {tx : Nat → Int32} {ln : Nat} {s : Nat × Bool} {rd : Nat → Int32} : (RB tx ln s rd).1.1 ≤ s.1 + 6 := by
  unfold RB
  split
  · exact RN_le
  · have := RF_le (tx := tx) (ln := ln) (s := s) (rd := rd)
    omega
def RD (tx : Nat → Int32) (ln p : Nat) (rd : Nat → Int32) : (Nat × Bool) × (Nat → Int32) :=
  let s1 := tk (p, true) (letB (chr tx ln p))
  let s2 := tk s1 (decide (chr tx ln s1.1 = 61))
  let b := RB tx ln s2 (upd (zs 6 rd) 0 (chr tx ln p - 97))
  (tk b.1 (decide (chr tx ln b.1.1 = 59)), b.2)
set_option maxHeartbeats 4000000 in
set_option maxRecDepth 100000 in
theorem k_reads {Y : rcY} {la : Launch} {v : rcM} {p ln : Nat} {o : Bool} {rd : Nat → Int32} (hl : v 0 5 = nI ln) (hln : ln ≤ 60) (hp : p ≤ 60) : rcT shM 13 Y la 3 (yX6_reads, cX6_reads, 2, (some .boolean)) [.ref (Y.2.1 0)] (TM v p o rd) (rI (bI (RD (v 4) ln p rd).1.2) (TM v (RD (v 4) ln p rd).1.1 (RD (v 4) ln p rd).1.2 (RD (v 4) ln p rd).2)) := by
  refine rcT.of (by decide +kernel) (Nat.le_of_ble_eq_true rfl) (fun X F hn => ?_)
  have post : ∀ (p1 : Nat) (o1 : Bool) (p2 : Nat) (o2 : Bool) (p3 : Nat) (o3 : Bool) (rd3 : Nat → Int32), tk (p, true) (letB (chr (v 4) ln p)) = (p1, o1) → tk (p1, o1) (decide (chr (v 4) ln p1 = 61)) = (p2, o2) → RB (v 4) ln (p2, o2) (upd (zs 6 rd) 0 (chr (v 4) ln p - 97)) = ((p3, o3), rd3) → p3 ≤ p + 8 → rcJ shM 13 Y X (rI (bI (RD (v 4) ln p rd).1.2) (TM v (RD (v 4) ln p rd).1.1 (RD (v 4) ln p rd).1.2 (RD (v 4) ln p rd).2)) 95 [(0, .ref (Y.2.1 0))] [] (TM v p3 o3 rd3) := by
    intro p1 o1 p2 o2 p3 o3 rd3 e1 e2 e3 b3
    refine j_aload_n F.1 dX6_reads_95 rfl ?_
    refine j_aload_n F.1 dX6_reads_96 rfl ?_
    refine j_callVi F (k_here hl hln (by omega)) co_X6_here ml_X6_179 im_X6_here se_X6_here in_X6 rc_X6_here rfl (by decide) (by decide) ⟨by decide, rfl⟩ rfl rfl (Nat.le_of_ble_eq_true rfl) dX6_reads_97 ?_
    refine j_bipush F.1 (59) dX6_reads_100 (by decide) ?_
    refine j_icmp_ne F.1 109 dX6_reads_102 (by decide) (fun h102 => ?_) (fun h102 => ?_)
    · have z9 : decide (chr (v 4) ln p3 = 59) = false := decide_eq_false h102
      refine j_iconst F.1 (0) dX6_reads_109 (by decide) ?_
      refine j_top (y := bI (decide (chr (v 4) ln p3 = 59))) (by rw [z9]; rfl) ?_
      refine j_callVv F (k_takes) co_X6_takes ml_X6_182 im_X6_takes se_X6_takes in_X6 rc_X6_takes rfl (by decide) (by decide) ⟨by decide, rfl⟩ rfl rfl (Nat.le_of_ble_eq_true rfl) dX6_reads_110 ?_
      obtain ⟨p4, o4, e4, b4⟩ : ∃ p4 o4, tk (p3, o3) (decide (chr (v 4) ln p3 = 59)) = (p4, o4) ∧ p4 ≤ p3 + 1 := ⟨_, _, rfl, tk_le⟩
      rw [e4]
      refine j_aload_n F.1 dX6_reads_113 rfl ?_
      refine j_getz F (k := 16) inX6 rfl (by decide) fl_X6_176 ⟨by decide, rfl⟩ rfl dX6_reads_114 ?_
      refine j_top (y := bI o4) (rcb_bI _) ?_
      exact j_zret F (bI_01 _) dX6_reads_117 ((rIe (by unfold RD; simp only [e1, e2, e3, e4]) (by unfold RD; simp only [e1, e2, e3, e4])))
    · have z9 : decide (chr (v 4) ln p3 = 59) = true := decide_eq_true h102
      refine j_iconst F.1 (1) dX6_reads_105 (by decide) ?_
      refine j_goto F.1 110 dX6_reads_106 (by decide) ?_
      refine j_top (y := bI (decide (chr (v 4) ln p3 = 59))) (by rw [z9]; rfl) ?_
      refine j_callVv F (k_takes) co_X6_takes ml_X6_182 im_X6_takes se_X6_takes in_X6 rc_X6_takes rfl (by decide) (by decide) ⟨by decide, rfl⟩ rfl rfl (Nat.le_of_ble_eq_true rfl) dX6_reads_110 ?_
      obtain ⟨p4, o4, e4, b4⟩ : ∃ p4 o4, tk (p3, o3) (decide (chr (v 4) ln p3 = 59)) = (p4, o4) ∧ p4 ≤ p3 + 1 := ⟨_, _, rfl, tk_le⟩
      rw [e4]
      refine j_aload_n F.1 dX6_reads_113 rfl ?_
      refine j_getz F (k := 16) inX6 rfl (by decide) fl_X6_176 ⟨by decide, rfl⟩ rfl dX6_reads_114 ?_
      refine j_top (y := bI o4) (rcb_bI _) ?_
      exact j_zret F (bI_01 _) dX6_reads_117 ((rIe (by unfold RD; simp only [e1, e2, e3, e4]) (by unfold RD; simp only [e1, e2, e3, e4])))
  have loop : ∀ r t : Nat, 1 ≤ t → t ≤ 6 → 6 < t + r → rcJ shM 13 Y X (rI (bI (RD (v 4) ln p rd).1.2) (TM v (RD (v 4) ln p rd).1.1 (RD (v 4) ln p rd).1.2 (RD (v 4) ln p rd).2)) 7 [(1, .int (nI (t))), (0, .ref (Y.2.1 0))] [] (TM v p true (zs (t) rd)) := by
    intro r
    induction r with
    | zero => intro t hlo ht hr; omega
    | succ r ih =>
      intro t hlo ht hr
      refine j_iload_n F.1 dX6_reads_7 rfl ?_
      refine j_bipush F.1 (6) dX6_reads_8 (by decide) ?_
      refine j_icmp_ge F.1 26 dX6_reads_10 (by decide) (fun h10 => ?_) (fun h10 => ?_)
      · have q10 : 6 ≤ t := (nI_leI (a := 6) (b := t) (by omega) (by omega)).mp h10
        rw [Nat.le_antisymm ht q10]
        refine j_aload_n F.1 dX6_reads_26 rfl ?_
        refine j_getr F (k := 17) inX6 rfl (by decide) fl_X6_43 ⟨by decide, rfl⟩ rfl dX6_reads_27 ?_
        refine j_iconst F.1 (0) dX6_reads_30 (by decide) ?_
        refine j_aload_n F.1 dX6_reads_31 rfl ?_
        refine j_callVi F (k_readLetter hl hln (by omega)) co_X6_readLetter ml_X6_186 im_X6_readLetter se_X6_readLetter in_X6 rc_X6_readLetter rfl (by decide) (by decide) ⟨by decide, rfl⟩ rfl rfl (Nat.le_of_ble_eq_true rfl) dX6_reads_32 ?_
        obtain ⟨p1, o1, e1, b1⟩ : ∃ p1 o1, tk (p, true) (letB (chr (v 4) ln p)) = (p1, o1) ∧ p1 ≤ p + 1 := ⟨_, _, rfl, tk_le⟩
        rw [e1]
        refine j_iast F ⟨by decide, rfl⟩ rfl (by decide) (by decide) dX6_reads_35 ?_
        rw [TM_rd]
        refine j_aload_n F.1 dX6_reads_36 rfl ?_
        refine j_aload_n F.1 dX6_reads_37 rfl ?_
        refine j_callVi F (k_here hl hln (by omega)) co_X6_here ml_X6_179 im_X6_here se_X6_here in_X6 rc_X6_here rfl (by decide) (by decide) ⟨by decide, rfl⟩ rfl rfl (Nat.le_of_ble_eq_true rfl) dX6_reads_38 ?_
        refine j_bipush F.1 (61) dX6_reads_41 (by decide) ?_
        refine j_icmp_ne F.1 50 dX6_reads_43 (by decide) (fun h43 => ?_) (fun h43 => ?_)
        · have z : decide (chr (v 4) ln p1 = 61) = false := decide_eq_false h43
          refine j_iconst F.1 (0) dX6_reads_50 (by decide) ?_
          refine j_top (y := bI (decide (chr (v 4) ln p1 = 61))) (by rw [z]; rfl) ?_
          refine j_callVv F (k_takes) co_X6_takes ml_X6_182 im_X6_takes se_X6_takes in_X6 rc_X6_takes rfl (by decide) (by decide) ⟨by decide, rfl⟩ rfl rfl (Nat.le_of_ble_eq_true rfl) dX6_reads_51 ?_
          obtain ⟨p2, o2, e2, b2⟩ : ∃ p2 o2, tk (p1, o1) (decide (chr (v 4) ln p1 = 61)) = (p2, o2) ∧ p2 ≤ p1 + 1 := ⟨_, _, rfl, tk_le⟩
          rw [e2]
          refine j_aload_n F.1 dX6_reads_54 rfl ?_
          refine j_getz F (k := 16) inX6 rfl (by decide) fl_X6_176 ⟨by decide, rfl⟩ rfl dX6_reads_55 ?_
          refine j_top (y := bI o2) (rcb_bI _) ?_
          refine j_if_eq F.1 91 dX6_reads_58 (by decide) (fun h58 => ?_) (fun h58 => ?_)
          · have fo : RB (v 4) ln (p2, o2) (upd (zs 6 rd) 0 (chr (v 4) ln p - 97)) = RF (v 4) ln (p2, o2) (upd (zs 6 rd) 0 (chr (v 4) ln p - 97)) := if_neg (fun q => by have q1 : o2 = true := q.1; rw [q1] at h58; exact absurd h58 (by decide))
            refine j_aload_n F.1 dX6_reads_91 rfl ?_
            refine j_callVv F (k_readFormula hl hln (by omega)) co_X6_readFormula ml_X6_195 im_X6_readFormula se_X6_readFormula in_X6 rc_X6_readFormula rfl (by decide) (by decide) ⟨by decide, rfl⟩ rfl rfl (Nat.le_of_ble_eq_true rfl) dX6_reads_92 ?_
            refine j_loc [(0, .ref (Y.2.1 0))] rfl ?_
            exact post p1 o1 p2 _ _ _ _ e1 e2 fo (Nat.le_trans RF_le (by show p2 + 5 ≤ _; omega))
          · have ot : o2 = true := by cases o2 <;> simp_all [bI]
            subst ot
            refine j_aload_n F.1 dX6_reads_61 rfl ?_
            refine j_callVi F (k_here hl hln (by omega)) co_X6_here ml_X6_179 im_X6_here se_X6_here in_X6 rc_X6_here rfl (by decide) (by decide) ⟨by decide, rfl⟩ rfl rfl (Nat.le_of_ble_eq_true rfl) dX6_reads_62 ?_
            refine j_bipush F.1 (45) dX6_reads_65 (by decide) ?_
            refine j_icmp_eq F.1 84 dX6_reads_67 (by decide) (fun h67 => ?_) (fun h67 => ?_)
            · have fo : RB (v 4) ln (p2, true) (upd (zs 6 rd) 0 (chr (v 4) ln p - 97)) = RN (v 4) ln p2 (upd (zs 6 rd) 0 (chr (v 4) ln p - 97)) := if_pos ⟨rfl, Or.inl h67⟩
              refine j_aload_n F.1 dX6_reads_84 rfl ?_
              refine j_callVv F (k_readNumN hl hln (by omega) h67) co_X6_readNumber ml_X6_192 im_X6_readNumber se_X6_readNumber in_X6 rc_X6_readNumber rfl (by decide) (by decide) ⟨by decide, rfl⟩ rfl rfl (Nat.le_of_ble_eq_true rfl) dX6_reads_85 ?_
              rw [show (true && decide (0 < (dg (v 4) ln 5 (p2 + 1) 0).1 - (p2 + 1))) = decide (0 < (dg (v 4) ln 5 (p2 + 1) 0).1 - (p2 + 1)) from Bool.true_and _]
              have fn : RN (v 4) ln p2 (upd (zs 6 rd) 0 (chr (v 4) ln p - 97)) = (((dg (v 4) ln 5 (p2 + 1) 0).1, decide (0 < (dg (v 4) ln 5 (p2 + 1) 0).1 - (p2 + 1))), upd (upd (zs 6 rd) 0 (chr (v 4) ln p - 97)) 2 (-(dg (v 4) ln 5 (p2 + 1) 0).2)) := if_pos h67
              refine j_goto F.1 95 dX6_reads_88 (by decide) ?_
              refine j_loc [(0, .ref (Y.2.1 0))] rfl ?_
              exact post p1 o1 p2 true _ _ _ e1 e2 (fo.trans fn) (by have := (dg_ge (tx := v 4) (ln := ln) 5 (p2 + 1) 0).2; show (dg (v 4) ln 5 (p2 + 1) 0).1 ≤ p + 8; omega)
            · refine j_aload_n F.1 dX6_reads_70 rfl ?_
              refine j_callVi F (k_here hl hln (by omega)) co_X6_here ml_X6_179 im_X6_here se_X6_here in_X6 rc_X6_here rfl (by decide) (by decide) ⟨by decide, rfl⟩ rfl rfl (Nat.le_of_ble_eq_true rfl) dX6_reads_71 ?_
              refine j_bipush F.1 (48) dX6_reads_74 (by decide) ?_
              refine j_bipush F.1 (57) dX6_reads_76 (by decide) ?_
              refine j_callSi F (k_in) co_X6_in ml_X6_46 st_X6_in in_X6 rc_X6_in rfl (by decide) (by decide) rfl (Nat.le_of_ble_eq_true rfl) dX6_reads_78 ?_
              refine j_if_eq F.1 91 dX6_reads_81 (by decide) (fun h81 => ?_) (fun h81 => ?_)
              · rw [b2_0] at h81
                have fo : RB (v 4) ln (p2, true) (upd (zs 6 rd) 0 (chr (v 4) ln p - 97)) = RF (v 4) ln (p2, true) (upd (zs 6 rd) 0 (chr (v 4) ln p - 97)) := if_neg (fun q => q.2.elim h67 (fun z => h81 (of_decide_eq_true z)))
                refine j_aload_n F.1 dX6_reads_91 rfl ?_
                refine j_callVv F (k_readFormula hl hln (by omega)) co_X6_readFormula ml_X6_195 im_X6_readFormula se_X6_readFormula in_X6 rc_X6_readFormula rfl (by decide) (by decide) ⟨by decide, rfl⟩ rfl rfl (Nat.le_of_ble_eq_true rfl) dX6_reads_92 ?_
                refine j_loc [(0, .ref (Y.2.1 0))] rfl ?_
                exact post p1 o1 p2 _ _ _ _ e1 e2 fo (Nat.le_trans RF_le (by show p2 + 5 ≤ _; omega))
              · rw [b2_0, Classical.not_not] at h81
                have fo : RB (v 4) ln (p2, true) (upd (zs 6 rd) 0 (chr (v 4) ln p - 97)) = RN (v 4) ln p2 (upd (zs 6 rd) 0 (chr (v 4) ln p - 97)) := if_pos ⟨rfl, Or.inr (decide_eq_true h81)⟩
                have dg0 : digB (chr (v 4) ln p2) = true := decide_eq_true h81
                have pl : p2 < ln := chr_lt (fun z => by rw [z] at h81; exact absurd h81.1 (by decide))
                refine j_aload_n F.1 dX6_reads_84 rfl ?_
                refine j_callVv F (k_readNumP hl hln (by omega) h67 dg0 pl) co_X6_readNumber ml_X6_192 im_X6_readNumber se_X6_readNumber in_X6 rc_X6_readNumber rfl (by decide) (by decide) ⟨by decide, rfl⟩ rfl rfl (Nat.le_of_ble_eq_true rfl) dX6_reads_85 ?_
                rw [show (true && decide (0 < (dg (v 4) ln 5 p2 0).1 - p2)) = decide (0 < (dg (v 4) ln 5 p2 0).1 - p2) from Bool.true_and _]
                have fn : RN (v 4) ln p2 (upd (zs 6 rd) 0 (chr (v 4) ln p - 97)) = (((dg (v 4) ln 5 p2 0).1, decide (0 < (dg (v 4) ln 5 p2 0).1 - p2)), upd (upd (zs 6 rd) 0 (chr (v 4) ln p - 97)) 2 (dg (v 4) ln 5 p2 0).2) := if_neg h67
                refine j_goto F.1 95 dX6_reads_88 (by decide) ?_
                refine j_loc [(0, .ref (Y.2.1 0))] rfl ?_
                exact post p1 o1 p2 true _ _ _ e1 e2 (fo.trans fn) (by have := (dg_ge (tx := v 4) (ln := ln) 5 p2 0).2; show (dg (v 4) ln 5 p2 0).1 ≤ p + 8; omega)
        · have z : decide (chr (v 4) ln p1 = 61) = true := decide_eq_true h43
          refine j_iconst F.1 (1) dX6_reads_46 (by decide) ?_
          refine j_goto F.1 51 dX6_reads_47 (by decide) ?_
          refine j_top (y := bI (decide (chr (v 4) ln p1 = 61))) (by rw [z]; rfl) ?_
          refine j_callVv F (k_takes) co_X6_takes ml_X6_182 im_X6_takes se_X6_takes in_X6 rc_X6_takes rfl (by decide) (by decide) ⟨by decide, rfl⟩ rfl rfl (Nat.le_of_ble_eq_true rfl) dX6_reads_51 ?_
          obtain ⟨p2, o2, e2, b2⟩ : ∃ p2 o2, tk (p1, o1) (decide (chr (v 4) ln p1 = 61)) = (p2, o2) ∧ p2 ≤ p1 + 1 := ⟨_, _, rfl, tk_le⟩
          rw [e2]
          refine j_aload_n F.1 dX6_reads_54 rfl ?_
          refine j_getz F (k := 16) inX6 rfl (by decide) fl_X6_176 ⟨by decide, rfl⟩ rfl dX6_reads_55 ?_
          refine j_top (y := bI o2) (rcb_bI _) ?_
          refine j_if_eq F.1 91 dX6_reads_58 (by decide) (fun h58 => ?_) (fun h58 => ?_)
          · have fo : RB (v 4) ln (p2, o2) (upd (zs 6 rd) 0 (chr (v 4) ln p - 97)) = RF (v 4) ln (p2, o2) (upd (zs 6 rd) 0 (chr (v 4) ln p - 97)) := if_neg (fun q => by have q1 : o2 = true := q.1; rw [q1] at h58; exact absurd h58 (by decide))
            refine j_aload_n F.1 dX6_reads_91 rfl ?_
            refine j_callVv F (k_readFormula hl hln (by omega)) co_X6_readFormula ml_X6_195 im_X6_readFormula se_X6_readFormula in_X6 rc_X6_readFormula rfl (by decide) (by decide) ⟨by decide, rfl⟩ rfl rfl (Nat.le_of_ble_eq_true rfl) dX6_reads_92 ?_
            refine j_loc [(0, .ref (Y.2.1 0))] rfl ?_
            exact post p1 o1 p2 _ _ _ _ e1 e2 fo (Nat.le_trans RF_le (by show p2 + 5 ≤ _; omega))
          · have ot : o2 = true := by cases o2 <;> simp_all [bI]
            subst ot
            refine j_aload_n F.1 dX6_reads_61 rfl ?_
            refine j_callVi F (k_here hl hln (by omega)) co_X6_here ml_X6_179 im_X6_here se_X6_here in_X6 rc_X6_here rfl (by decide) (by decide) ⟨by decide, rfl⟩ rfl rfl (Nat.le_of_ble_eq_true rfl) dX6_reads_62 ?_
            refine j_bipush F.1 (45) dX6_reads_65 (by decide) ?_
            refine j_icmp_eq F.1 84 dX6_reads_67 (by decide) (fun h67 => ?_) (fun h67 => ?_)
            · have fo : RB (v 4) ln (p2, true) (upd (zs 6 rd) 0 (chr (v 4) ln p - 97)) = RN (v 4) ln p2 (upd (zs 6 rd) 0 (chr (v 4) ln p - 97)) := if_pos ⟨rfl, Or.inl h67⟩
              refine j_aload_n F.1 dX6_reads_84 rfl ?_
              refine j_callVv F (k_readNumN hl hln (by omega) h67) co_X6_readNumber ml_X6_192 im_X6_readNumber se_X6_readNumber in_X6 rc_X6_readNumber rfl (by decide) (by decide) ⟨by decide, rfl⟩ rfl rfl (Nat.le_of_ble_eq_true rfl) dX6_reads_85 ?_
              rw [show (true && decide (0 < (dg (v 4) ln 5 (p2 + 1) 0).1 - (p2 + 1))) = decide (0 < (dg (v 4) ln 5 (p2 + 1) 0).1 - (p2 + 1)) from Bool.true_and _]
              have fn : RN (v 4) ln p2 (upd (zs 6 rd) 0 (chr (v 4) ln p - 97)) = (((dg (v 4) ln 5 (p2 + 1) 0).1, decide (0 < (dg (v 4) ln 5 (p2 + 1) 0).1 - (p2 + 1))), upd (upd (zs 6 rd) 0 (chr (v 4) ln p - 97)) 2 (-(dg (v 4) ln 5 (p2 + 1) 0).2)) := if_pos h67
              refine j_goto F.1 95 dX6_reads_88 (by decide) ?_
              refine j_loc [(0, .ref (Y.2.1 0))] rfl ?_
              exact post p1 o1 p2 true _ _ _ e1 e2 (fo.trans fn) (by have := (dg_ge (tx := v 4) (ln := ln) 5 (p2 + 1) 0).2; show (dg (v 4) ln 5 (p2 + 1) 0).1 ≤ p + 8; omega)
            · refine j_aload_n F.1 dX6_reads_70 rfl ?_
              refine j_callVi F (k_here hl hln (by omega)) co_X6_here ml_X6_179 im_X6_here se_X6_here in_X6 rc_X6_here rfl (by decide) (by decide) ⟨by decide, rfl⟩ rfl rfl (Nat.le_of_ble_eq_true rfl) dX6_reads_71 ?_
              refine j_bipush F.1 (48) dX6_reads_74 (by decide) ?_
              refine j_bipush F.1 (57) dX6_reads_76 (by decide) ?_
              refine j_callSi F (k_in) co_X6_in ml_X6_46 st_X6_in in_X6 rc_X6_in rfl (by decide) (by decide) rfl (Nat.le_of_ble_eq_true rfl) dX6_reads_78 ?_
              refine j_if_eq F.1 91 dX6_reads_81 (by decide) (fun h81 => ?_) (fun h81 => ?_)
              · rw [b2_0] at h81
                have fo : RB (v 4) ln (p2, true) (upd (zs 6 rd) 0 (chr (v 4) ln p - 97)) = RF (v 4) ln (p2, true) (upd (zs 6 rd) 0 (chr (v 4) ln p - 97)) := if_neg (fun q => q.2.elim h67 (fun z => h81 (of_decide_eq_true z)))
                refine j_aload_n F.1 dX6_reads_91 rfl ?_
                refine j_callVv F (k_readFormula hl hln (by omega)) co_X6_readFormula ml_X6_195 im_X6_readFormula se_X6_readFormula in_X6 rc_X6_readFormula rfl (by decide) (by decide) ⟨by decide, rfl⟩ rfl rfl (Nat.le_of_ble_eq_true rfl) dX6_reads_92 ?_
                refine j_loc [(0, .ref (Y.2.1 0))] rfl ?_
                exact post p1 o1 p2 _ _ _ _ e1 e2 fo (Nat.le_trans RF_le (by show p2 + 5 ≤ _; omega))
              · rw [b2_0, Classical.not_not] at h81
                have fo : RB (v 4) ln (p2, true) (upd (zs 6 rd) 0 (chr (v 4) ln p - 97)) = RN (v 4) ln p2 (upd (zs 6 rd) 0 (chr (v 4) ln p - 97)) := if_pos ⟨rfl, Or.inr (decide_eq_true h81)⟩
                have dg0 : digB (chr (v 4) ln p2) = true := decide_eq_true h81
                have pl : p2 < ln := chr_lt (fun z => by rw [z] at h81; exact absurd h81.1 (by decide))
                refine j_aload_n F.1 dX6_reads_84 rfl ?_
                refine j_callVv F (k_readNumP hl hln (by omega) h67 dg0 pl) co_X6_readNumber ml_X6_192 im_X6_readNumber se_X6_readNumber in_X6 rc_X6_readNumber rfl (by decide) (by decide) ⟨by decide, rfl⟩ rfl rfl (Nat.le_of_ble_eq_true rfl) dX6_reads_85 ?_
                rw [show (true && decide (0 < (dg (v 4) ln 5 p2 0).1 - p2)) = decide (0 < (dg (v 4) ln 5 p2 0).1 - p2) from Bool.true_and _]
                have fn : RN (v 4) ln p2 (upd (zs 6 rd) 0 (chr (v 4) ln p - 97)) = (((dg (v 4) ln 5 p2 0).1, decide (0 < (dg (v 4) ln 5 p2 0).1 - p2)), upd (upd (zs 6 rd) 0 (chr (v 4) ln p - 97)) 2 (dg (v 4) ln 5 p2 0).2) := if_neg h67
                refine j_goto F.1 95 dX6_reads_88 (by decide) ?_
                refine j_loc [(0, .ref (Y.2.1 0))] rfl ?_
                exact post p1 o1 p2 true _ _ _ e1 e2 (fo.trans fn) (by have := (dg_ge (tx := v 4) (ln := ln) 5 p2 0).2; show (dg (v 4) ln 5 p2 0).1 ≤ p + 8; omega)
      · have q10 : t < 6 := Nat.lt_of_not_le (fun z => h10 ((nI_leI (a := 6) (b := t) (by omega) (by omega)).mpr z))
        refine j_aload_n F.1 dX6_reads_13 rfl ?_
        refine j_getr F (k := 17) inX6 rfl (by decide) fl_X6_43 ⟨by decide, rfl⟩ rfl dX6_reads_14 ?_
        refine j_iload_n F.1 dX6_reads_17 rfl ?_
        refine j_iconst F.1 (0) dX6_reads_18 (by decide) ?_
        refine j_iast F ⟨by decide, rfl⟩ rfl (by omega) (by decide) dX6_reads_19 ?_
        refine j_iinc F.1 (1) dX6_reads_20 (by decide) rfl (by rw [hn]; decide) ?_
        refine j_goto F.1 7 dX6_reads_23 (by decide) ?_
        refine j_loc [(1, .int (nI (t + 1))), (0, .ref (Y.2.1 0))] (by rw [← nI_1]; rfl) ?_
        rw [TM_rd, zs_s hlo]
        exact ih (t + 1) (by omega) (by omega) (by omega)
  refine j_aload_n F.1 dX6_reads_0 rfl ?_
  refine j_iconst F.1 (1) dX6_reads_1 (by decide) ?_
  refine j_putz F (k := 16) inX6 tyX6_ok nmX6 rfl (by decide) fl_X6_176 rfl rfl ⟨by decide, rfl⟩ rfl (by first | exact Or.inl rfl | exact Or.inr rfl | exact rcb_01 _) dX6_reads_2 ?_
  refine j_iconst F.1 (1) dX6_reads_5 (by decide) ?_
  refine j_istore_n F.1 dX6_reads_6 (by rw [hn]; decide) ?_
  rw [show rcu (TM v p o rd) 0 16 1 = TM v p true rd from TM_fm (o' := true)]
  refine j_loc [(1, .int (nI (1))), (0, .ref (Y.2.1 0))] rfl ?_
  have e := loop 6 1 (by omega) (by omega) (by omega)
  rw [zs_1] at e
  exact e
