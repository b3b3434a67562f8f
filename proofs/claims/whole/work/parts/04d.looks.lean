/-! The reference: looks. -/
def KL (v : rcM) (c : Nat) : Option Value → rcM → Prop := fun r u => match A_look 11 [] (v 1) c with
  | none => r = some (.int 0) ∧ FrS v u
  | some g => r = some (.int 1) ∧ u 1 = g ∧ FrS v u
set_option maxHeartbeats 4000000 in
set_option maxRecDepth 100000 in
theorem k_looks {Y : rcY} {la : Launch} {v : rcM} {c0 : Nat} (hc0 : c0 < 10) (hP : WF (v 1)) : rcT shM 13 Y la 4 (yX6_looks, cX6_looks, 2, (some .boolean)) [.ref (Y.2.1 0), .int (nI c0)] (v) (KL v c0) := by
  refine rcT.of (by decide +kernel) (Nat.le_of_ble_eq_true rfl) (fun X F hn => ?_)
  have hst : HStep (fun w => rcJ shM 13 Y X (KL v c0) 15 [(0, .ref (Y.2.1 0)), (1, .int (nI c0))] [] w) := by
    refine ⟨?_, ?_, ?_, ?_⟩
    · intro w tp c k u x hc10 ht10 hc hk hd hk2 hu hw hr h6 hH
      refine j_aload_n F.1 dX6_looks_15 rfl ?_
      refine j_geti F (k := 10) inX6 rfl (by decide) fl_X6_88 ⟨by decide, rfl⟩ rfl dX6_looks_16 ?_
      refine j_top hd ?_
      refine j_if_le F.1 69 dX6_looks_19 (by decide) (fun h19 => ?_) (fun h19 => ?_)
      · exact absurd h19 (nI_nle (Nat.succ_pos _) (by omega))
      · refine j_aload_n F.1 dX6_looks_22 rfl ?_
        refine j_getz F (k := 11) inX6 rfl (by decide) fl_X6_98 ⟨by decide, rfl⟩ rfl dX6_looks_23 ?_
        refine j_top (y := 0) (by rw [hr]; rfl) ?_
        refine j_if_ne F.1 69 dX6_looks_26 (by decide) (fun h26 => False.elim (by revert h26; decide)) (fun _ => ?_)
        refine j_aload_n F.1 dX6_looks_29 rfl ?_
        refine j_getr F (k := 7) inX6 rfl (by decide) fl_X6_25 ⟨by decide, rfl⟩ rfl dX6_looks_30 ?_
        refine j_aload_n F.1 dX6_looks_33 rfl ?_
        refine j_geti F (k := 10) inX6 rfl (by decide) fl_X6_88 ⟨by decide, rfl⟩ rfl dX6_looks_34 ?_
        refine j_iconst F.1 (1) dX6_looks_37 (by decide) ?_
        refine j_isub F.1 dX6_looks_38 ?_
        refine j_iald F ⟨by decide, rfl⟩ (by rw [hd, nI_pred]) (by omega) (by decide) dX6_looks_39 ?_
        refine j_top (y := 0) h6 ?_
        refine j_if_ne F.1 56 dX6_looks_40 (by decide) (fun h40 => False.elim (by revert h40; decide)) (fun _ => ?_)
        refine j_aload_n F.1 dX6_looks_43 rfl ?_
        refine j_aload_n F.1 dX6_looks_44 rfl ?_
        refine j_geti F (k := 10) inX6 rfl (by decide) fl_X6_88 ⟨by decide, rfl⟩ rfl dX6_looks_45 ?_
        refine j_iconst F.1 (1) dX6_looks_48 (by decide) ?_
        refine j_isub F.1 dX6_looks_49 ?_
        refine j_top (y := nI tp) (by rw [hd, nI_pred]) ?_
        refine j_callVv F (k_checks hc10 ht10 hc hk hd hk2 hu hw) co_X6_checks ml_X6_127 im_X6_checks se_X6_checks in_X6 rc_X6_checks rfl (by decide) (by decide) ⟨by decide, rfl⟩ rfl rfl (Nat.le_of_ble_eq_true rfl) dX6_looks_50 ?_
        refine j_goto F.1 15 dX6_looks_53 (by decide) ?_
        exact hH
    · intro w tp c x hc10 ht10 hc hd hx hx10 hk hp hr h6 hH
      refine j_aload_n F.1 dX6_looks_15 rfl ?_
      refine j_geti F (k := 10) inX6 rfl (by decide) fl_X6_88 ⟨by decide, rfl⟩ rfl dX6_looks_16 ?_
      refine j_top hd ?_
      refine j_if_le F.1 69 dX6_looks_19 (by decide) (fun h19 => ?_) (fun h19 => ?_)
      · exact absurd h19 (nI_nle (Nat.succ_pos _) (by omega))
      · refine j_aload_n F.1 dX6_looks_22 rfl ?_
        refine j_getz F (k := 11) inX6 rfl (by decide) fl_X6_98 ⟨by decide, rfl⟩ rfl dX6_looks_23 ?_
        refine j_top (y := 0) (by rw [hr]; rfl) ?_
        refine j_if_ne F.1 69 dX6_looks_26 (by decide) (fun h26 => False.elim (by revert h26; decide)) (fun _ => ?_)
        refine j_aload_n F.1 dX6_looks_29 rfl ?_
        refine j_getr F (k := 7) inX6 rfl (by decide) fl_X6_25 ⟨by decide, rfl⟩ rfl dX6_looks_30 ?_
        refine j_aload_n F.1 dX6_looks_33 rfl ?_
        refine j_geti F (k := 10) inX6 rfl (by decide) fl_X6_88 ⟨by decide, rfl⟩ rfl dX6_looks_34 ?_
        refine j_iconst F.1 (1) dX6_looks_37 (by decide) ?_
        refine j_isub F.1 dX6_looks_38 ?_
        refine j_iald F ⟨by decide, rfl⟩ (by rw [hd, nI_pred]) (by omega) (by decide) dX6_looks_39 ?_
        refine j_top (y := 1) h6 ?_
        refine j_if_ne F.1 56 dX6_looks_40 (by decide) (fun _ => ?_) (fun h40 => False.elim (by revert h40; decide))
        refine j_aload_n F.1 dX6_looks_56 rfl ?_
        refine j_aload_n F.1 dX6_looks_57 rfl ?_
        refine j_geti F (k := 10) inX6 rfl (by decide) fl_X6_88 ⟨by decide, rfl⟩ rfl dX6_looks_58 ?_
        refine j_iconst F.1 (1) dX6_looks_61 (by decide) ?_
        refine j_isub F.1 dX6_looks_62 ?_
        refine j_top (y := nI tp) (by rw [hd, nI_pred]) ?_
        refine j_callVv F (k_works0 hc10 ht10 hc hd hx hx10 hk hp) co_X6_works ml_X6_130 im_X6_works se_X6_works in_X6 rc_X6_works rfl (by decide) (by decide) ⟨by decide, rfl⟩ rfl rfl (Nat.le_of_ble_eq_true rfl) dX6_looks_63 ?_
        refine j_goto F.1 15 dX6_looks_66 (by decide) ?_
        exact hH
    · intro w tp c x y hc10 ht10 hc hd hx hx10 hk hy hy10 hp hr h6 hH
      refine j_aload_n F.1 dX6_looks_15 rfl ?_
      refine j_geti F (k := 10) inX6 rfl (by decide) fl_X6_88 ⟨by decide, rfl⟩ rfl dX6_looks_16 ?_
      refine j_top hd ?_
      refine j_if_le F.1 69 dX6_looks_19 (by decide) (fun h19 => ?_) (fun h19 => ?_)
      · exact absurd h19 (nI_nle (Nat.succ_pos _) (by omega))
      · refine j_aload_n F.1 dX6_looks_22 rfl ?_
        refine j_getz F (k := 11) inX6 rfl (by decide) fl_X6_98 ⟨by decide, rfl⟩ rfl dX6_looks_23 ?_
        refine j_top (y := 0) (by rw [hr]; rfl) ?_
        refine j_if_ne F.1 69 dX6_looks_26 (by decide) (fun h26 => False.elim (by revert h26; decide)) (fun _ => ?_)
        refine j_aload_n F.1 dX6_looks_29 rfl ?_
        refine j_getr F (k := 7) inX6 rfl (by decide) fl_X6_25 ⟨by decide, rfl⟩ rfl dX6_looks_30 ?_
        refine j_aload_n F.1 dX6_looks_33 rfl ?_
        refine j_geti F (k := 10) inX6 rfl (by decide) fl_X6_88 ⟨by decide, rfl⟩ rfl dX6_looks_34 ?_
        refine j_iconst F.1 (1) dX6_looks_37 (by decide) ?_
        refine j_isub F.1 dX6_looks_38 ?_
        refine j_iald F ⟨by decide, rfl⟩ (by rw [hd, nI_pred]) (by omega) (by decide) dX6_looks_39 ?_
        refine j_top (y := 1) h6 ?_
        refine j_if_ne F.1 56 dX6_looks_40 (by decide) (fun _ => ?_) (fun h40 => False.elim (by revert h40; decide))
        refine j_aload_n F.1 dX6_looks_56 rfl ?_
        refine j_aload_n F.1 dX6_looks_57 rfl ?_
        refine j_geti F (k := 10) inX6 rfl (by decide) fl_X6_88 ⟨by decide, rfl⟩ rfl dX6_looks_58 ?_
        refine j_iconst F.1 (1) dX6_looks_61 (by decide) ?_
        refine j_isub F.1 dX6_looks_62 ?_
        refine j_top (y := nI tp) (by rw [hd, nI_pred]) ?_
        refine j_callVv F (k_works1 hc10 ht10 hc hd hx hx10 hk hy hy10 hp) co_X6_works ml_X6_130 im_X6_works se_X6_works in_X6 rc_X6_works rfl (by decide) (by decide) ⟨by decide, rfl⟩ rfl rfl (Nat.le_of_ble_eq_true rfl) dX6_looks_63 ?_
        refine j_goto F.1 15 dX6_looks_66 (by decide) ?_
        exact hH
    · intro w tp c x y hc10 ht10 hc hd hx hx10 hk hy hy10 hr h6 hH
      refine j_aload_n F.1 dX6_looks_15 rfl ?_
      refine j_geti F (k := 10) inX6 rfl (by decide) fl_X6_88 ⟨by decide, rfl⟩ rfl dX6_looks_16 ?_
      refine j_top hd ?_
      refine j_if_le F.1 69 dX6_looks_19 (by decide) (fun h19 => ?_) (fun h19 => ?_)
      · exact absurd h19 (nI_nle (Nat.succ_pos _) (by omega))
      · refine j_aload_n F.1 dX6_looks_22 rfl ?_
        refine j_getz F (k := 11) inX6 rfl (by decide) fl_X6_98 ⟨by decide, rfl⟩ rfl dX6_looks_23 ?_
        refine j_top (y := 0) (by rw [hr]; rfl) ?_
        refine j_if_ne F.1 69 dX6_looks_26 (by decide) (fun h26 => False.elim (by revert h26; decide)) (fun _ => ?_)
        refine j_aload_n F.1 dX6_looks_29 rfl ?_
        refine j_getr F (k := 7) inX6 rfl (by decide) fl_X6_25 ⟨by decide, rfl⟩ rfl dX6_looks_30 ?_
        refine j_aload_n F.1 dX6_looks_33 rfl ?_
        refine j_geti F (k := 10) inX6 rfl (by decide) fl_X6_88 ⟨by decide, rfl⟩ rfl dX6_looks_34 ?_
        refine j_iconst F.1 (1) dX6_looks_37 (by decide) ?_
        refine j_isub F.1 dX6_looks_38 ?_
        refine j_iald F ⟨by decide, rfl⟩ (by rw [hd, nI_pred]) (by omega) (by decide) dX6_looks_39 ?_
        refine j_top (y := 1) h6 ?_
        refine j_if_ne F.1 56 dX6_looks_40 (by decide) (fun _ => ?_) (fun h40 => False.elim (by revert h40; decide))
        refine j_aload_n F.1 dX6_looks_56 rfl ?_
        refine j_aload_n F.1 dX6_looks_57 rfl ?_
        refine j_geti F (k := 10) inX6 rfl (by decide) fl_X6_88 ⟨by decide, rfl⟩ rfl dX6_looks_58 ?_
        refine j_iconst F.1 (1) dX6_looks_61 (by decide) ?_
        refine j_isub F.1 dX6_looks_62 ?_
        refine j_top (y := nI tp) (by rw [hd, nI_pred]) ?_
        refine j_callVv F (k_works2 hc10 ht10 hc hd hx hx10 hk hy hy10) co_X6_works ml_X6_130 im_X6_works se_X6_works in_X6 rc_X6_works rfl (by decide) (by decide) ⟨by decide, rfl⟩ rfl rfl (Nat.le_of_ble_eq_true rfl) dX6_looks_63 ?_
        refine j_goto F.1 15 dX6_looks_66 (by decide) ?_
        exact hH
  refine j_aload_n F.1 dX6_looks_0 rfl ?_
  refine j_iconst F.1 (0) dX6_looks_1 (by decide) ?_
  refine j_puti F (k := 10) inX6 tyX6_ok nmX6 rfl (by decide) fl_X6_88 rfl rfl ⟨by decide, rfl⟩ rfl dX6_looks_2 ?_
  refine j_aload_n F.1 dX6_looks_5 rfl ?_
  refine j_iconst F.1 (0) dX6_looks_6 (by decide) ?_
  refine j_putz F (k := 11) inX6 tyX6_ok nmX6 rfl (by decide) fl_X6_98 rfl rfl ⟨by decide, rfl⟩ rfl (by first | exact Or.inl rfl | exact Or.inr rfl | exact rcb_01 _) dX6_looks_7 ?_
  refine j_aload_n F.1 dX6_looks_10 rfl ?_
  refine j_iload_n F.1 dX6_looks_11 rfl ?_
  
  refine j_callVv F (k_enters (dp := 0) hc0 (by rw [rcu_k (by decide)]; exact rcu_self) (by decide) (fun _ _ _ => by decide)) co_X6_enters ml_X6_114 im_X6_enters se_X6_enters in_X6 rc_X6_enters rfl (by decide) (by decide) ⟨by decide, rfl⟩ rfl rfl (Nat.le_of_ble_eq_true rfl) dX6_looks_12 ?_
  have F0 : FrS v (rcu (rcu v 0 10 0) 0 11 0) := (FrS.d (Or.inl rfl)).tr (FrS.d (Or.inr rfl))
  have e0 : (rcu (rcu v 0 10 0) 0 11 0) 1 = v 1 := by rw [rcu_ne (by decide), rcu_ne (by decide)]
  refine j_loc [(0, .ref (Y.2.1 0)), (1, .int (nI c0))] rfl ?_
  refine LK_all hst 11 [] c0 (rcu (rcu v 0 10 0) 0 11 0) hc0 ⟨by rw [e0]; exact hP, fun o ho => by cases ho⟩ ⟨List.nodup_nil, fun o ho => by cases ho⟩ (by decide) (by rw [rcu_k (by decide)]; exact rcu_self) trivial rcu_self ?_
  rw [e0]
  cases ea : A_look 11 [] (v 1) c0 with
  | none =>
    intro w h11 fr
    refine j_aload_n F.1 dX6_looks_15 rfl ?_
    refine j_geti F (k := 10) inX6 rfl (by decide) fl_X6_88 ⟨by decide, rfl⟩ rfl dX6_looks_16 ?_
    refine j_if_le F.1 69 dX6_looks_19 (by decide) (fun h19 => ?_) (fun h19 => ?_)
    · refine j_aload_n F.1 dX6_looks_69 rfl ?_
      refine j_getz F (k := 11) inX6 rfl (by decide) fl_X6_98 ⟨by decide, rfl⟩ rfl dX6_looks_70 ?_
      refine j_top (y := 1) (by rw [h11]; rfl) ?_
      refine j_if_ne F.1 80 dX6_looks_73 (by decide) (fun _ => ?_) (fun h73 => False.elim (by revert h73; decide))
      refine j_iconst F.1 (0) dX6_looks_80 (by decide) ?_
      exact j_zret F (by first | exact Or.inl rfl | exact Or.inr rfl | exact b2_01 _) dX6_looks_81 ((by unfold KL; rw [ea]; exact ⟨rfl, F0.tr fr⟩))
    · refine j_aload_n F.1 dX6_looks_22 rfl ?_
      refine j_getz F (k := 11) inX6 rfl (by decide) fl_X6_98 ⟨by decide, rfl⟩ rfl dX6_looks_23 ?_
      refine j_top (y := 1) (by rw [h11]; rfl) ?_
      refine j_if_ne F.1 69 dX6_looks_26 (by decide) (fun _ => ?_) (fun h26 => False.elim (by revert h26; decide))
      refine j_aload_n F.1 dX6_looks_69 rfl ?_
      refine j_getz F (k := 11) inX6 rfl (by decide) fl_X6_98 ⟨by decide, rfl⟩ rfl dX6_looks_70 ?_
      refine j_top (y := 1) (by rw [h11]; rfl) ?_
      refine j_if_ne F.1 80 dX6_looks_73 (by decide) (fun _ => ?_) (fun h73 => False.elim (by revert h73; decide))
      refine j_iconst F.1 (0) dX6_looks_80 (by decide) ?_
      exact j_zret F (by first | exact Or.inl rfl | exact Or.inr rfl | exact b2_01 _) dX6_looks_81 ((by unfold KL; rw [ea]; exact ⟨rfl, F0.tr fr⟩))
  | some g =>
    intro w r1 hd h11 lo fr
    refine j_aload_n F.1 dX6_looks_15 rfl ?_
    refine j_geti F (k := 10) inX6 rfl (by decide) fl_X6_88 ⟨by decide, rfl⟩ rfl dX6_looks_16 ?_
    refine j_top (y := 0) (by rw [hd]; rfl) ?_
    refine j_if_le F.1 69 dX6_looks_19 (by decide) (fun _ => ?_) (fun h19 => False.elim (by revert h19; decide))
    refine j_aload_n F.1 dX6_looks_69 rfl ?_
    refine j_getz F (k := 11) inX6 rfl (by decide) fl_X6_98 ⟨by decide, rfl⟩ rfl dX6_looks_70 ?_
    refine j_top (y := 0) (by rw [h11]; rfl) ?_
    refine j_if_ne F.1 80 dX6_looks_73 (by decide) (fun h73 => False.elim (by revert h73; decide)) (fun _ => ?_)
    refine j_iconst F.1 (1) dX6_looks_76 (by decide) ?_
    refine j_goto F.1 81 dX6_looks_77 (by decide) ?_
    exact j_zret F (by first | exact Or.inl rfl | exact Or.inr rfl | exact b2_01 _) dX6_looks_81 ((by unfold KL; rw [ea]; exact ⟨rfl, r1, F0.tr fr⟩))
