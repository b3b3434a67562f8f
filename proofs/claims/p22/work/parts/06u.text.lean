/-! The class: faults, play, typing. -/
theorem CR.fx {v u : rcM} {f p tx : Nat → Int32} {n ln : Nat} (h : CR v f p n tx ln) (hn : n ≤ 4) (x : FX v u) : CR u f p n tx ln := h.frame hn (fun id _ _ h35 => x.1 id h35.1 h35.2) x.2
theorem ch_in : ∀ j, j < 127 → ((nI j).toUInt32 % 65536).toInt32 = nI j ∧ vp_nar .char (nI j) = nI j := by decide +kernel
theorem ch_of {x : Int32} (h : 32 ≤ x ∧ x ≤ 126) : (x.toUInt32 % 65536).toInt32 = x ∧ vp_nar .char x = x := by
  have h0 : ¬ x < 0 := fun z => by
    have a := Int32.le_iff_toInt_le.mp h.1
    have b := Int32.lt_iff_toInt_lt.mp z
    have e1 : ((32 : Int32)).toInt = 32 := by decide
    have e2 : ((0 : Int32)).toInt = 0 := by decide
    omega
  obtain ⟨j, hj, rfl⟩ := nI_of2 (n := 126) (M := 126) rfl h0 h.2
  exact ch_in j (by omega)
set_option maxHeartbeats 4000000 in
set_option maxRecDepth 100000 in
theorem c_rewind {Y : rcY} {la : Launch} {v : rcM}  : rcT shC 139 Y la 0 (yX4_rewind, cX4_rewind, 1, none) [.ref (Y.2.1 3)] (v) (rV (atM v 0)) := by
  refine rcT.of (by decide +kernel) (Nat.le_of_ble_eq_true rfl) (fun X F hn => ?_)
  refine j_aload_n F.1 dX4_rewind_0 rfl ?_
  refine j_iconst F.1 (0) dX4_rewind_1 (by decide) ?_
  refine j_puti F (k := 2) inX4 tyX4_ok nmX4 rfl (by decide) fl_X4_26 rfl rfl ⟨by decide, rfl⟩ rfl dX4_rewind_2 ?_
  exact j_vret F dX4_rewind_5 ((rVe rfl))
set_option maxHeartbeats 4000000 in
set_option maxRecDepth 100000 in
theorem c_empty {Y : rcY} {la : Launch} {v : rcM}  : rcT shC 139 Y la 0 (yX4_empty, cX4_empty, 1, none) [.ref (Y.2.1 3)] (v) (rV (rcu v 3 1 0)) := by
  refine rcT.of (by decide +kernel) (Nat.le_of_ble_eq_true rfl) (fun X F hn => ?_)
  refine j_aload_n F.1 dX4_empty_0 rfl ?_
  refine j_iconst F.1 (0) dX4_empty_1 (by decide) ?_
  refine j_puti F (k := 1) inX4 tyX4_ok nmX4 rfl (by decide) fl_X4_22 rfl rfl ⟨by decide, rfl⟩ rfl dX4_empty_2 ?_
  exact j_vret F dX4_empty_5 ((rVe rfl))
set_option maxHeartbeats 4000000 in
set_option maxRecDepth 100000 in
theorem c_hasMore {Y : rcY} {la : Launch} {v : rcM} {tx : Nat → Int32} {ln p : Nat} (hT : TX v tx ln p) (hln : ln ≤ 60) (hp : p ≤ 90) : rcT shC 139 Y la 0 (yX4_hasMore, cX4_hasMore, 1, (some .boolean)) [.ref (Y.2.1 3)] (v) (rI (b2 (p < ln)) v) := by
  refine rcT.of (by decide +kernel) (Nat.le_of_ble_eq_true rfl) (fun X F hn => ?_)
  refine j_aload_n F.1 dX4_hasMore_0 rfl ?_
  refine j_geti F (k := 2) inX4 rfl (by decide) fl_X4_26 ⟨by decide, rfl⟩ rfl dX4_hasMore_1 ?_
  refine j_top hT.2.1 ?_
  refine j_aload_n F.1 dX4_hasMore_4 rfl ?_
  refine j_geti F (k := 1) inX4 rfl (by decide) fl_X4_22 ⟨by decide, rfl⟩ rfl dX4_hasMore_5 ?_
  refine j_top hT.1 ?_
  refine j_icmp_ge F.1 15 dX4_hasMore_8 (by decide) (fun h8 => ?_) (fun h8 => ?_)
  · have hz : (0 : Int32) = b2 (p < ln) := (b2_f (fun z => nI_ge (a := p) (b := ln) z (by omega) h8)).symm
    refine j_iconst F.1 (0) dX4_hasMore_15 (by decide) ?_
    exact j_zret F (by first | exact Or.inl rfl | exact Or.inr rfl | exact b2_01 _) dX4_hasMore_16 ((rIe hz rfl))
  · have hz : (1 : Int32) = b2 (p < ln) := (b2_t (Nat.lt_of_not_le (fun z => h8 (nI_le (a := ln) (b := p) z (by omega))))).symm
    refine j_iconst F.1 (1) dX4_hasMore_11 (by decide) ?_
    refine j_goto F.1 16 dX4_hasMore_12 (by decide) ?_
    exact j_zret F (by first | exact Or.inl rfl | exact Or.inr rfl | exact b2_01 _) dX4_hasMore_16 ((rIe hz rfl))
set_option maxHeartbeats 4000000 in
set_option maxRecDepth 100000 in
theorem c_append {Y : rcY} {la : Launch} {v : rcM} {ln : Nat} {x : Int32} (h1 : v 3 1 = nI ln) (hln : ln < 60) (hx : vp_nar .char x = x) : rcT shC 139 Y la 0 (yX4_append, cX4_append, 2, none) [.ref (Y.2.1 3), .int x] (v) (rV (rcu (rcu v 4 ln x) 3 1 (nI (ln + 1)))) := by
  refine rcT.of (by decide +kernel) (Nat.le_of_ble_eq_true rfl) (fun X F hn => ?_)
  refine j_aload_n F.1 dX4_append_0 rfl ?_
  refine j_geti F (k := 1) inX4 rfl (by decide) fl_X4_22 ⟨by decide, rfl⟩ rfl dX4_append_1 ?_
  refine j_top h1 ?_
  refine j_bipush F.1 (60) dX4_append_4 (by decide) ?_
  refine j_icmp_ge F.1 29 dX4_append_6 (by decide) (fun h6 => ?_) (fun h6 => ?_)
  · exact absurd h6 (nI_ge (a := ln) (b := 60) (by omega) (by decide))
  · refine j_aload_n F.1 dX4_append_9 rfl ?_
    refine j_getr F (k := 0) inX4 rfl (by decide) fl_X4_9 ⟨by decide, rfl⟩ rfl dX4_append_10 ?_
    refine j_aload_n F.1 dX4_append_13 rfl ?_
    refine j_geti F (k := 1) inX4 rfl (by decide) fl_X4_22 ⟨by decide, rfl⟩ rfl dX4_append_14 ?_
    refine j_iload_n F.1 dX4_append_17 rfl ?_
    refine j_cast F ⟨by decide, rfl⟩ h1 (show ln < 60 by omega) (by decide) hx dX4_append_18 ?_
    refine j_aload_n F.1 dX4_append_19 rfl ?_
    refine j_dup F.1 dX4_append_20 rfl ?_
    refine j_geti F (k := 1) inX4 rfl (by decide) fl_X4_22 ⟨by decide, rfl⟩ rfl dX4_append_21 ?_
    refine j_iconst F.1 (1) dX4_append_24 (by decide) ?_
    refine j_iadd F.1 dX4_append_25 ?_
    refine j_top (y := nI (ln + 1)) (by rw [rcu_ne (by decide), h1, nI_1]) ?_
    refine j_puti F (k := 1) inX4 tyX4_ok nmX4 rfl (by decide) fl_X4_22 rfl rfl ⟨by decide, rfl⟩ rfl dX4_append_26 ?_
    exact j_vret F dX4_append_29 ((rVe rfl))
def KFF (v : rcM) (tx : Nat → Int32) (ln : Nat) : Option Value → rcM → Prop := fun r u => FX v u ∧ match brk tx ln 61 0 with
  | none => r = some (.int (-1))
  | some q => r = some (.int (nI q.1)) ∧ TX u tx ln q.2
theorem kff_n {v u : rcM} {tx : Nat → Int32} {ln : Nat} (h : brk tx ln 61 0 = none) (x : FX v u) : KFF v tx ln (some (.int (-1))) u := by
  unfold KFF
  rw [h]
  exact ⟨x, rfl⟩
theorem kff_s {v u : rcM} {tx : Nat → Int32} {ln : Nat} {q : Nat × Nat} (h : brk tx ln 61 0 = some q) (x : FX v u) (hT : TX u tx ln q.2) : KFF v tx ln (some (.int (nI q.1))) u := by
  unfold KFF
  rw [h]
  exact ⟨x, rfl, hT⟩
theorem brk_no {tx : Nat → Int32} {ln n p : Nat} (h : ¬ p < ln) : brk tx ln (n + 1) p = none := by rw [brk_s, if_neg h]
set_option maxHeartbeats 4000000 in
set_option maxRecDepth 100000 in
theorem c_findFault {Y : rcY} {la : Launch} {v : rcM} {tx : Nat → Int32} {ln : Nat} (h1 : v 3 1 = nI ln) (h3 : ∀ i, i < ln → v 4 i = tx i) (hln : ln ≤ 60) : rcT shC 139 Y la 5 (yX4_findFault, cX4_findFault, 3, (some .int)) [.ref (Y.2.1 3)] (v) (KFF v tx ln) := by
  refine rcT.of (by decide +kernel) (Nat.le_of_ble_eq_true rfl) (fun X F hn => ?_)
  have loop : ∀ r t : Nat, t ≤ 60 → 60 < t + r → ∀ (w : rcM) (p : Nat), FX v w → TX w tx ln p → (t) ≤ p → p ≤ 60 → brk tx ln (61 - (t)) p = brk tx ln 61 0 → rcJ shC 139 Y X (KFF v tx ln) 6 [(1, .int (nI (t))), (0, .ref (Y.2.1 3))] [] w := by
    intro r
    induction r with
    | zero => intro t ht hr; omega
    | succ r ih =>
      intro t ht hr
      intro w p hF hT htp hp60 hbk
      refine j_iload_n F.1 dX4_findFault_6 rfl ?_
      refine j_bipush F.1 (60) dX4_findFault_7 (by decide) ?_
      refine j_icmp_ge F.1 39 dX4_findFault_9 (by decide) (fun h9 => ?_) (fun h9 => ?_)
      · have q9 : 60 ≤ t := (nI_leI (a := 60) (b := t) (by omega) (by omega)).mp h9
        refine j_iconst F.1 (-1) dX4_findFault_39 (by decide) ?_
        exact j_iret F dX4_findFault_40 ((kff_n (by rw [← hbk, show 61 - t = (60 - t) + 1 by omega]; exact brk_no (by omega)) hF))
      · have q9 : t < 60 := Nat.lt_of_not_le (fun z => h9 ((nI_leI (a := 60) (b := t) (by omega) (by omega)).mpr z))
        refine j_aload_n F.1 dX4_findFault_12 rfl ?_
        refine j_callVi F (c_hasMore hT hln (by omega)) co_X4_hasMore ml_X4_32 im_X4_hasMore se_X4_hasMore in_X4 rc_X4_hasMore rfl (by decide) (by decide) ⟨by decide, rfl⟩ rfl rfl (Nat.le_of_ble_eq_true rfl) dX4_findFault_13 ?_
        refine j_if_eq F.1 39 dX4_findFault_16 (by decide) (fun h16 => ?_) (fun h16 => ?_)
        · rw [b2_0] at h16
          refine j_iconst F.1 (-1) dX4_findFault_39 (by decide) ?_
          exact j_iret F dX4_findFault_40 ((kff_n (by rw [← hbk, show 61 - t = (60 - t) + 1 by omega]; exact brk_no (by omega)) hF))
        · rw [b2_0, Classical.not_not] at h16
          refine j_aload_n F.1 dX4_findFault_19 rfl ?_
          refine j_geti F (k := 2) inX4 rfl (by decide) fl_X4_26 ⟨by decide, rfl⟩ rfl dX4_findFault_20 ?_
          refine j_top hT.2.1 ?_
          refine j_istore_n F.1 dX4_findFault_23 (by rw [hn]; decide) ?_
          refine j_aload_n F.1 dX4_findFault_24 rfl ?_
          refine j_callV F (c_readDefinition hT hln hp60) co_X4_readDefinition ml_X4_36 im_X4_readDefinition se_X4_readDefinition in_X4 rc_X4_readDefinition rfl (by decide) (by decide) ⟨by decide, rfl⟩ rfl rfl (Nat.le_of_ble_eq_true rfl) dX4_findFault_25 (fun r u hr => ?_)
          obtain ⟨fx, hTq, hm⟩ := hr
          cases ePR : PR tx ln p with
          | mk q d =>
            rw [ePR] at hTq hm
            cases d with
            | none =>
              obtain rfl := hm
              refine j_tl ?_
              refine j_if_ne F.1 33 dX4_findFault_28 (by decide) (fun h28 => False.elim (by revert h28; decide)) (fun _ => ?_)
              refine j_iload_n F.1 dX4_findFault_31 rfl ?_
              exact j_iret F dX4_findFault_32 ((kff_s (q := (p, q)) (by rw [← hbk, show 61 - t = (61 - (t + 1)) + 1 by omega, brk_s, if_pos h16, ePR]) (hF.tr fx) hTq))
            | some d =>
              obtain ⟨rfl, h33, hD⟩ := hm
              have hgt := PR_gt ePR
              refine j_tl ?_
              refine j_if_ne F.1 33 dX4_findFault_28 (by decide) (fun _ => ?_) (fun h28 => False.elim (by revert h28; decide))
              refine j_iinc F.1 (1) dX4_findFault_33 (by decide) rfl (by rw [hn]; decide) ?_
              refine j_goto F.1 6 dX4_findFault_36 (by decide) ?_
              refine j_loc [(1, .int (nI (t + 1))), (0, .ref (Y.2.1 3))] (by rw [← nI_1]; rfl) ?_
              exact ih (t + 1) (by omega) (by omega) _ q (hF.tr fx) hTq (by omega) (by omega) (by rw [← hbk, show 61 - t = (61 - (t + 1)) + 1 by omega, brk_s, if_pos h16, ePR])
  refine j_aload_n F.1 dX4_findFault_0 rfl ?_
  refine j_callVv F (c_rewind) co_X4_rewind ml_X4_29 im_X4_rewind se_X4_rewind in_X4 rc_X4_rewind rfl (by decide) (by decide) ⟨by decide, rfl⟩ rfl rfl (Nat.le_of_ble_eq_true rfl) dX4_findFault_1 ?_
  refine j_iconst F.1 (0) dX4_findFault_4 (by decide) ?_
  refine j_istore_n F.1 dX4_findFault_5 (by rw [hn]; decide) ?_
  refine j_loc [(1, .int (nI (0))), (0, .ref (Y.2.1 3))] rfl ?_
  exact loop 61 0 (by omega) (by omega) (atM v 0) 0 FX.at ⟨by unfold atM; rw [rcu_k (by decide)]; exact h1, by unfold atM; rw [rcu_self], fun i hi => by unfold atM; rw [rcu_ne (by decide)]; exact h3 i hi⟩ (by decide) (by decide) rfl
theorem brk_le {tx : Nat → Int32} {ln : Nat} : ∀ (n p : Nat) (q : Nat × Nat), brk tx ln n p = some q → q.1 < ln := by
  intro n
  induction n with
  | zero => intro p q h; cases h
  | succ n ih =>
    intro p q h
    rw [brk_s] at h
    by_cases hp : p < ln
    · rw [if_pos hp] at h
      cases e : PR tx ln p with
      | mk a d =>
        rw [e] at h
        cases d with
        | none => cases h; exact hp
        | some d => exact ih _ _ h
    · rw [if_neg hp] at h; cases h
set_option maxHeartbeats 4000000 in
set_option maxRecDepth 100000 in
theorem c_fault {Y : rcY} {la : Launch} {v : rcM} {f p tx : Nat → Int32} {n ln : Nat} (hn4 : n ≤ 4) (hC : CR v f p n tx ln) (hln : ln ≤ 60) {x : Int32} : rcT shC 139 Y la 6 (yX5_fault, cX5_fault, 3, (some .int)) [.ref (Y.2.1 0), .int x] (v) (KX (S_fault tx ln x) f p n tx ln) := by
  refine rcT.of (by decide +kernel) (Nat.le_of_ble_eq_true rfl) (fun X F hn => ?_)
  refine j_iload_n F.1 dX5_fault_0 rfl ?_
  refine j_iconst F.1 (0) dX5_fault_1 (by decide) ?_
  refine j_iconst F.1 (1) dX5_fault_2 (by decide) ?_
  refine j_callSi F (c_isWithin) co_X5_isWithin ml_X5_75 st_X5_isWithin in_X5 rc_X5_isWithin rfl (by decide) (by decide) rfl (Nat.le_of_ble_eq_true rfl) dX5_fault_3 ?_
  refine j_if_ne F.1 12 dX5_fault_6 (by decide) (fun h6 => ?_) (fun h6 => ?_)
  · rw [b2_0, Classical.not_not] at h6
    refine j_aload_n F.1 dX5_fault_12 rfl ?_
    refine j_getr F (k := 3) inX5 rfl (by decide) fl_X5_29 ⟨by decide, rfl⟩ rfl dX5_fault_13 ?_
    refine j_callV F (c_findFault hC.2.2.2.1 hC.2.2.2.2 hln) co_X4_findFault ml_X5_188 im_X4_findFault se_X4_findFault in_X4 rc_X4_findFault rfl (by decide) (by decide) ⟨by decide, rfl⟩ rfl rfl (Nat.le_of_ble_eq_true rfl) dX5_fault_16 (fun r u hr => ?_)
    obtain ⟨fx, hm⟩ := hr
    cases eb : brk tx ln 61 0 with
    | none =>
      rw [eb] at hm
      obtain rfl := hm
      refine j_tl ?_
      refine j_istore_n F.1 dX5_fault_19 (by rw [hn]; decide) ?_
      refine j_iload_n F.1 dX5_fault_20 rfl ?_
      refine j_iconst F.1 (-1) dX5_fault_21 (by decide) ?_
      refine j_icmp_ne F.1 28 dX5_fault_22 (by decide) (fun h22 => False.elim (by revert h22; decide)) (fun _ => ?_)
      refine j_ldc F cn_X5_91 dX5_fault_25 ?_
      exact j_iret F dX5_fault_27 ((by unfold S_fault; rw [if_pos h6, eb]; exact ⟨rfl, hC.fx hn4 fx⟩))
    | some q =>
      rw [eb] at hm
      obtain ⟨rfl, hTq⟩ := hm
      refine j_tl ?_
      refine j_istore_n F.1 dX5_fault_19 (by rw [hn]; decide) ?_
      refine j_iload_n F.1 dX5_fault_20 rfl ?_
      refine j_iconst F.1 (-1) dX5_fault_21 (by decide) ?_
      refine j_icmp_ne F.1 28 dX5_fault_22 (by decide) (fun h22 => ?_) (fun h22 => ?_)
      · refine j_iload_n F.1 dX5_fault_28 rfl ?_
        refine j_if_ne F.1 36 dX5_fault_29 (by decide) (fun h29 => ?_) (fun h29 => ?_)
        · refine j_aload_n F.1 dX5_fault_36 rfl ?_
          refine j_getr F (k := 3) inX5 rfl (by decide) fl_X5_29 ⟨by decide, rfl⟩ rfl dX5_fault_37 ?_
          refine j_geti F (k := 2) inX4 rfl (by decide) fl_X5_191 ⟨by decide, rfl⟩ rfl dX5_fault_40 ?_
          refine j_top hTq.2.1 ?_
          refine j_iload_n F.1 dX5_fault_43 rfl ?_
          refine j_isub F.1 dX5_fault_44 ?_
          exact j_iret F dX5_fault_45 ((by unfold S_fault; rw [if_pos h6, eb]; dsimp only; first | (rw [if_pos h29]; exact ⟨rfl, hC.fx hn4 fx⟩) | (rw [if_neg h29]; exact ⟨rfl, hC.fx hn4 fx⟩)))
        · refine j_iload_n F.1 dX5_fault_32 rfl ?_
          refine j_goto F.1 45 dX5_fault_33 (by decide) ?_
          exact j_iret F dX5_fault_45 ((by unfold S_fault; rw [if_pos h6, eb]; dsimp only; first | (rw [if_pos h29]; exact ⟨rfl, hC.fx hn4 fx⟩) | (rw [if_neg h29]; exact ⟨rfl, hC.fx hn4 fx⟩)))
      · exact absurd h22 (fun z => nI_pos (n := q.1) (by have := brk_le _ _ _ eb; omega) (by rw [z]; decide))
  · rw [b2_0] at h6
    refine j_ldc F cn_X5_47 dX5_fault_9 ?_
    exact j_iret F dX5_fault_11 ((by unfold S_fault; rw [if_neg h6]; exact ⟨rfl, hC⟩))
theorem cr_q {v u : rcM} {f p tx : Nat → Int32} {n ln : Nat} (hC : CR v f p n tx ln) (e : ∀ id, id ≠ 3 → id ≠ 4 → u id = v id) (hn : n ≤ 4) : ∃ q : Nat → Nat, HQ u q ∧ ∀ j, j < n → Rep u (q j) (rwH p j) := by
  obtain ⟨-, -, ⟨q, hq, hr⟩, -, -⟩ := hC
  refine ⟨q, ?_, fun j hj => ?_⟩
  · unfold HQ at *; rw [e 2 (by decide) (by decide)]; exact hq
  · have b := hq.1 j (by omega)
    exact (hr j hj).blk (fun id hid => e id (by unfold Blk at hid; omega) (by unfold Blk at hid; omega))
theorem cr_tx {v u : rcM} {f p tx tx' : Nat → Int32} {n ln ln' : Nat} (hC : CR v f p n tx ln) (e : ∀ id, id ≠ 3 → id ≠ 4 → u id = v id) (hn : n ≤ 4) (h1 : u 3 1 = nI ln') (h3 : ∀ i, i < ln' → u 4 i = tx' i) : CR u f p n tx' ln' :=
  ⟨hC.1.blk (fun id hid => e id (by unfold Blk at hid; omega) (by unfold Blk at hid; omega)), by rw [e 1 (by decide) (by decide)]; exact hC.2.1, cr_q hC e hn, h1, h3⟩
set_option maxHeartbeats 4000000 in
set_option maxRecDepth 100000 in
theorem c_clearText {Y : rcY} {la : Launch} {v : rcM} {f p tx : Nat → Int32} {n ln : Nat} (hn4 : n ≤ 4) (hC : CR v f p n tx ln) : rcT shC 139 Y la 1 (yX5_clearText, cX5_clearText, 2, (some .int)) [.ref (Y.2.1 0)] (v) (KX (nI ln) f p n tx 0) := by
  refine rcT.of (by decide +kernel) (Nat.le_of_ble_eq_true rfl) (fun X F hn => ?_)
  refine j_aload_n F.1 dX5_clearText_0 rfl ?_
  refine j_getr F (k := 3) inX5 rfl (by decide) fl_X5_29 ⟨by decide, rfl⟩ rfl dX5_clearText_1 ?_
  refine j_geti F (k := 1) inX4 rfl (by decide) fl_X5_174 ⟨by decide, rfl⟩ rfl dX5_clearText_4 ?_
  refine j_top hC.2.2.2.1 ?_
  refine j_istore_n F.1 dX5_clearText_7 (by rw [hn]; decide) ?_
  refine j_aload_n F.1 dX5_clearText_8 rfl ?_
  refine j_getr F (k := 3) inX5 rfl (by decide) fl_X5_29 ⟨by decide, rfl⟩ rfl dX5_clearText_9 ?_
  refine j_callVv F (c_empty) co_X4_empty ml_X5_185 im_X4_empty se_X4_empty in_X4 rc_X4_empty rfl (by decide) (by decide) ⟨by decide, rfl⟩ rfl rfl (Nat.le_of_ble_eq_true rfl) dX5_clearText_12 ?_
  refine j_iload_n F.1 dX5_clearText_15 rfl ?_
  exact j_iret F dX5_clearText_16 ⟨rfl, cr_tx hC (fun id h3 _ => rcu_ne h3) hn4 rcu_self (fun i hi => absurd hi (by omega))⟩
theorem ty_c {v : rcM} {f p tx : Nat → Int32} {n ln i : Nat} {x y : Int32} (hC : CR v f p n tx ln) (hi : i < ln + 1) : rcu (rcu v 4 ln x) 3 1 y 4 i = upd tx ln x i := by
  rw [rcu_ne (by decide)]
  by_cases e : i = ln
  · subst e; rw [rcu_self, pk_us]
  · rw [rcu_k e, pk_un e]; exact hC.2.2.2.2 i (by omega)
set_option maxHeartbeats 4000000 in
set_option maxRecDepth 100000 in
theorem c_type {Y : rcY} {la : Launch} {v : rcM} {f p tx : Nat → Int32} {n ln : Nat} (hn4 : n ≤ 4) (hC : CR v f p n tx ln) (hln : ln ≤ 60) {x : Int32} : rcT shC 139 Y la 1 (yX5_type, cX5_type, 2, (some .int)) [.ref (Y.2.1 0), .int x] (v) (KX (S_type tx ln x).1 f p n (S_type tx ln x).2.1 (S_type tx ln x).2.2) := by
  refine rcT.of (by decide +kernel) (Nat.le_of_ble_eq_true rfl) (fun X F hn => ?_)
  refine j_iload_n F.1 dX5_type_0 rfl ?_
  refine j_bipush F.1 (32) dX5_type_1 (by decide) ?_
  refine j_bipush F.1 (126) dX5_type_3 (by decide) ?_
  refine j_callSi F (c_isWithin) co_X5_isWithin ml_X5_75 st_X5_isWithin in_X5 rc_X5_isWithin rfl (by decide) (by decide) rfl (Nat.le_of_ble_eq_true rfl) dX5_type_5 ?_
  refine j_if_ne F.1 14 dX5_type_8 (by decide) (fun h8 => ?_) (fun h8 => ?_)
  · rw [b2_0, Classical.not_not] at h8
    refine j_aload_n F.1 dX5_type_14 rfl ?_
    refine j_getr F (k := 3) inX5 rfl (by decide) fl_X5_29 ⟨by decide, rfl⟩ rfl dX5_type_15 ?_
    refine j_geti F (k := 1) inX4 rfl (by decide) fl_X5_174 ⟨by decide, rfl⟩ rfl dX5_type_18 ?_
    refine j_top hC.2.2.2.1 ?_
    refine j_bipush F.1 (60) dX5_type_21 (by decide) ?_
    refine j_icmp_lt F.1 29 dX5_type_23 (by decide) (fun h23 => ?_) (fun h23 => ?_)
    · have hlt : ln < 60 := Nat.lt_of_not_le (fun z => nI_nlt (a := ln) (b := 60) z (by omega) (by first | exact h23 | exact Int32.not_le.mp h23))
      refine j_aload_n F.1 dX5_type_29 rfl ?_
      refine j_getr F (k := 3) inX5 rfl (by decide) fl_X5_29 ⟨by decide, rfl⟩ rfl dX5_type_30 ?_
      refine j_iload_n F.1 dX5_type_33 rfl ?_
      refine j_i2c F.1 dX5_type_34 ?_
      refine j_top (ch_of h8).1 ?_
      refine j_callVv F (c_append hC.2.2.2.1 hlt (ch_of h8).2) co_X4_append ml_X5_181 im_X4_append se_X4_append in_X4 rc_X4_append rfl (by decide) (by decide) ⟨by decide, rfl⟩ rfl rfl (Nat.le_of_ble_eq_true rfl) dX5_type_35 ?_
      refine j_aload_n F.1 dX5_type_38 rfl ?_
      refine j_getr F (k := 3) inX5 rfl (by decide) fl_X5_29 ⟨by decide, rfl⟩ rfl dX5_type_39 ?_
      refine j_geti F (k := 1) inX4 rfl (by decide) fl_X5_174 ⟨by decide, rfl⟩ rfl dX5_type_42 ?_
      refine j_top (y := nI (ln + 1)) rcu_self ?_
      exact j_iret F dX5_type_45 ((by unfold S_type; rw [if_pos h8, if_neg (by omega)]; exact ⟨rfl, cr_tx hC (fun id h3 h4 => by rw [rcu_ne h3, rcu_ne h4]) hn4 rcu_self (fun i hi => ty_c hC hi)⟩))
    · have hge : ln = 60 := by
        rcases Nat.lt_or_ge ln 60 with z | z
        · exact absurd (nI_lt (a := ln) (b := 60) z (by decide)) (by first | exact h23 | exact Int32.not_lt.mpr h23)
        · omega
      refine j_ldc F cn_X5_180 dX5_type_26 ?_
      exact j_iret F dX5_type_28 ((by unfold S_type; rw [if_pos h8, if_pos hge]; exact ⟨rfl, hC⟩))
  · rw [b2_0] at h8
    refine j_ldc F cn_X5_47 dX5_type_11 ?_
    exact j_iret F dX5_type_13 ((by unfold S_type; rw [if_neg h8]; exact ⟨rfl, hC⟩))
theorem pl_tx {v u : rcM} {tx : Nat → Int32} {ln p : Nat} (h : TX v tx ln p) (o : Out v u 0) : TX u tx ln p := by
  unfold TX
  rw [o 3 (by unfold Blk; omega), o 4 (by unfold Blk; omega)]
  exact h
set_option maxHeartbeats 4000000 in
set_option maxRecDepth 100000 in
theorem c_play {Y : rcY} {la : Launch} {v : rcM} {f p tx : Nat → Int32} {n ln : Nat} (hn4 : n ≤ 4) (hC : CR v f p n tx ln) (hln : ln ≤ 60) : rcT shC 139 Y la 6 (yX5_play, cX5_play, 2, (some .int)) [.ref (Y.2.1 0)] (v) (KXq (S_play f p n tx ln) tx ln) := by
  refine rcT.of (by decide +kernel) (Nat.le_of_ble_eq_true rfl) (fun X F hn => ?_)
  refine j_aload_n F.1 dX5_play_0 rfl ?_
  refine j_getr F (k := 3) inX5 rfl (by decide) fl_X5_29 ⟨by decide, rfl⟩ rfl dX5_play_1 ?_
  refine j_callV F (c_findFault hC.2.2.2.1 hC.2.2.2.2 hln) co_X4_findFault ml_X5_188 im_X4_findFault se_X4_findFault in_X4 rc_X4_findFault rfl (by decide) (by decide) ⟨by decide, rfl⟩ rfl rfl (Nat.le_of_ble_eq_true rfl) dX5_play_4 (fun r u hr => ?_)
  obtain ⟨fx, hm⟩ := hr
  cases eb : brk tx ln 61 0 with
  | none =>
    rw [eb] at hm
    obtain rfl := hm
    refine j_tl ?_
    refine j_iconst F.1 (-1) dX5_play_7 (by decide) ?_
    refine j_icmp_eq F.1 14 dX5_play_8 (by decide) (fun _ => ?_) (fun h8 => False.elim (by revert h8; decide))
    refine j_aload_n F.1 dX5_play_14 rfl ?_
    refine j_getr F (k := 2) inX5 rfl (by decide) fl_X5_22 ⟨by decide, rfl⟩ rfl dX5_play_15 ?_
    refine j_aload_n F.1 dX5_play_18 rfl ?_
    refine j_getr F (k := 0) inX5 rfl (by decide) fl_X5_10 ⟨by decide, rfl⟩ rfl dX5_play_19 ?_
    refine j_callV F (c_record hn4 (hC.fx hn4 fx)) co_X2_record ml_X5_48 im_X2_record se_X2_record in_X2 rc_X2_record rfl (by decide) (by decide) ⟨by decide, rfl⟩ rfl rfl (Nat.le_of_ble_eq_true rfl) dX5_play_22 (fun r u hr => ?_)
    obtain ⟨rfl, hC1, fr1⟩ := hr
    refine j_aload_n F.1 dX5_play_25 rfl ?_
    refine j_getr F (k := 3) inX5 rfl (by decide) fl_X5_29 ⟨by decide, rfl⟩ rfl dX5_play_26 ?_
    refine j_callVv F (c_rewind) co_X4_rewind ml_X5_194 im_X4_rewind se_X4_rewind in_X4 rc_X4_rewind rfl (by decide) (by decide) ⟨by decide, rfl⟩ rfl rfl (Nat.le_of_ble_eq_true rfl) dX5_play_29 ?_
    have hC2 := hC1.fx (H_le hn4) (FX.at (v := u) (q := 0))
    refine j_iconst F.1 (0) dX5_play_32 (by decide) ?_
    refine j_istore_n F.1 dX5_play_33 (by rw [hn]; decide) ?_
    have loop : ∀ r t : Nat, t ≤ 60 → 60 < t + r → ∀ (w : rcM) (g : Nat → Int32) (a : Nat), CR w g (H_act n f p).1 (H_act n f p).2 tx ln → TX w tx ln a → (t) ≤ a → a ≤ 60 → brk tx ln (61 - (t)) a = none → A_play tx ln (61 - (t)) g a = A_play tx ln 61 f 0 → rcJ shC 139 Y X (KXq (S_play f p n tx ln) tx ln) 34 [(1, .int (nI (t))), (0, .ref (Y.2.1 0))] [] w := by
      intro r
      induction r with
      | zero => intro t ht hr; omega
      | succ r ih =>
        intro t ht hr
        intro w g a hCw hT hta ha60 hbk hpl
        refine j_iload_n F.1 dX5_play_34 rfl ?_
        refine j_bipush F.1 (60) dX5_play_35 (by decide) ?_
        refine j_icmp_ge F.1 87 dX5_play_37 (by decide) (fun h37 => ?_) (fun h37 => ?_)
        · have q37 : 60 ≤ t := (nI_leI (a := 60) (b := t) (by omega) (by omega)).mp h37
          refine j_aload_n F.1 dX5_play_87 rfl ?_
          refine j_getr F (k := 0) inX5 rfl (by decide) fl_X5_10 ⟨by decide, rfl⟩ rfl dX5_play_88 ?_
          refine j_geti F (k := 1) inX3 rfl (by decide) fl_X5_60 (sh_st (k := 0) (by decide)) rfl dX5_play_91 ?_
          refine j_top hCw.1.2.1 ?_
          exact j_iret F dX5_play_94 ((by have e : A_play tx ln 61 f 0 = g := by { rw [← hpl, show 61 - t = (60 - t) + 1 by omega, play_s, if_neg (by omega)] }; unfold S_play; rw [eb]; dsimp only; rw [e]; exact ⟨rfl, hCw⟩))
        · have q37 : t < 60 := Nat.lt_of_not_le (fun z => h37 ((nI_leI (a := 60) (b := t) (by omega) (by omega)).mpr z))
          refine j_aload_n F.1 dX5_play_40 rfl ?_
          refine j_getr F (k := 3) inX5 rfl (by decide) fl_X5_29 ⟨by decide, rfl⟩ rfl dX5_play_41 ?_
          refine j_callVi F (c_hasMore hT hln (by omega)) co_X4_hasMore ml_X5_197 im_X4_hasMore se_X4_hasMore in_X4 rc_X4_hasMore rfl (by decide) (by decide) ⟨by decide, rfl⟩ rfl rfl (Nat.le_of_ble_eq_true rfl) dX5_play_44 ?_
          refine j_if_eq F.1 87 dX5_play_47 (by decide) (fun h47 => ?_) (fun h47 => ?_)
          · rw [b2_0] at h47
            refine j_aload_n F.1 dX5_play_87 rfl ?_
            refine j_getr F (k := 0) inX5 rfl (by decide) fl_X5_10 ⟨by decide, rfl⟩ rfl dX5_play_88 ?_
            refine j_geti F (k := 1) inX3 rfl (by decide) fl_X5_60 (sh_st (k := 0) (by decide)) rfl dX5_play_91 ?_
            refine j_top hCw.1.2.1 ?_
            exact j_iret F dX5_play_94 ((by have e : A_play tx ln 61 f 0 = g := by { rw [← hpl, show 61 - t = (60 - t) + 1 by omega, play_s, if_neg (by omega)] }; unfold S_play; rw [eb]; dsimp only; rw [e]; exact ⟨rfl, hCw⟩))
          · rw [b2_0, Classical.not_not] at h47
            refine j_aload_n F.1 dX5_play_50 rfl ?_
            refine j_getr F (k := 3) inX5 rfl (by decide) fl_X5_29 ⟨by decide, rfl⟩ rfl dX5_play_51 ?_
            refine j_callV F (c_readDefinition hT hln ha60) co_X4_readDefinition ml_X5_201 im_X4_readDefinition se_X4_readDefinition in_X4 rc_X4_readDefinition rfl (by decide) (by decide) ⟨by decide, rfl⟩ rfl rfl (Nat.le_of_ble_eq_true rfl) dX5_play_54 (fun r u hr => ?_)
            obtain ⟨fx, hTq, hm⟩ := hr
            cases ePR : PR tx ln a with
            | mk q d =>
              rw [ePR] at hTq hm
              cases d with
              | none => exact absurd (by rw [show 61 - t = (61 - (t + 1)) + 1 by omega, brk_s, if_pos h47, ePR] at hbk; exact hbk) (by intro z; cases z)
              | some d =>
                obtain ⟨rfl, h33, hD⟩ := hm
                have hgt := PR_gt ePR
                have hc := cN_ok (PR_DV ePR).1
                have hCu := hCw.fx (H_le hn4) fx
                refine j_tl ?_
                refine j_if_eq F.1 81 dX5_play_57 (by decide) (fun h57 => False.elim (by revert h57; decide)) (fun _ => ?_)
                refine j_aload_n F.1 dX5_play_60 rfl ?_
                refine j_getr F (k := 0) inX5 rfl (by decide) fl_X5_10 ⟨by decide, rfl⟩ rfl dX5_play_61 ?_
                refine j_aload_n F.1 dX5_play_64 rfl ?_
                refine j_getr F (k := 3) inX5 rfl (by decide) fl_X5_29 ⟨by decide, rfl⟩ rfl dX5_play_65 ?_
                refine j_geti F (k := 3) inX4 rfl (by decide) fl_X5_204 ⟨by decide, rfl⟩ rfl dX5_play_68 ?_
                refine j_top (h33.trans hc.2) ?_
                refine j_aload_n F.1 dX5_play_71 rfl ?_
                refine j_getr F (k := 3) inX5 rfl (by decide) fl_X5_29 ⟨by decide, rfl⟩ rfl dX5_play_72 ?_
                refine j_getr F (k := 4) inX4 rfl (by decide) fl_X5_207 ⟨by decide, rfl⟩ rfl dX5_play_75 ?_
                refine j_callV F (c_redefine (k := 0) (q := 5) (by decide) hc.1 ⟨by decide, rfl⟩ (by decide) hCu.1) co_X3_redefine ml_X5_56 im_X3_redefine se_X3_redefine in_X3 rc_X3_redefine rfl (by decide) (by decide) (sh_st (k := 0) (by decide)) rfl rfl (Nat.le_of_ble_eq_true rfl) dX5_play_78 (fun r u hr => ?_)
                obtain ⟨rfl, R7, kp7⟩ := hr
                obtain ⟨d0, d1, d2, d3, d4⟩ := hD
                rw [d0, d1, d2, d3, d4] at R7
                refine j_iinc F.1 (1) dX5_play_81 (by decide) rfl (by rw [hn]; decide) ?_
                refine j_goto F.1 34 dX5_play_84 (by decide) ?_
                refine j_loc [(1, .int (nI (t + 1))), (0, .ref (Y.2.1 0))] (by rw [← nI_1]; rfl) ?_
                exact ih (t + 1) (by omega) (by omega) _ _ q (hCu.out0 (H_le hn4) kp7.1 R7) (pl_tx hTq kp7.1) (by omega) (by omega) (by rw [← hbk, show 61 - t = (61 - (t + 1)) + 1 by omega, brk_s, if_pos h47, ePR]) (by rw [← hpl, show 61 - t = (61 - (t + 1)) + 1 by omega, play_s, if_pos h47, ePR])
    refine j_loc [(1, .int (nI (0))), (0, .ref (Y.2.1 0))] rfl ?_
    exact loop 61 0 (by omega) (by omega) (atM u 0) f 0 hC2 ⟨hC2.2.2.2.1, by unfold atM; rw [rcu_self], hC2.2.2.2.2⟩ (by decide) (by decide) eb rfl
  | some q =>
    rw [eb] at hm
    obtain ⟨rfl, hTq⟩ := hm
    refine j_tl ?_
    refine j_iconst F.1 (-1) dX5_play_7 (by decide) ?_
    refine j_icmp_eq F.1 14 dX5_play_8 (by decide) (fun h8 => ?_) (fun h8 => ?_)
    · exact absurd h8 (fun z => nI_pos (n := q.1) (by have := brk_le _ _ _ eb; omega) (by rw [z]; decide))
    · refine j_ldc F cn_X5_110 dX5_play_11 ?_
      exact j_iret F dX5_play_13 ((by unfold S_play; rw [eb]; exact ⟨rfl, hC.fx hn4 fx⟩))
