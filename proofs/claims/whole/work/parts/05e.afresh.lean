/-! The reference: afresh and what rests on it. -/
noncomputable def EV (f : Nat → Int32) (c : Nat) : Option (Int32 × Int32) := @dite _ (∃ q : Int32 × Int32, ∃ m, ev m f c = some q) (Classical.propDecidable _) (fun h => some h.choose) (fun _ => none)
theorem EV_some {f : Nat → Int32} {c m : Nat} {q : Int32 × Int32} (h : ev m f c = some q) : EV f c = some q := by
  have hx : ∃ q : Int32 × Int32, ∃ m, ev m f c = some q := ⟨q, m, h⟩
  unfold EV
  rw [dif_pos hx]
  obtain ⟨k, hk⟩ := hx.choose_spec
  rw [ev_eq hk h]
theorem EV_none {f : Nat → Int32} {c : Nat} (h : Never f c) : EV f c = none := by
  unfold EV
  rw [dif_neg]
  rintro ⟨q, m, e⟩
  rw [h m] at e
  cases e
def KA (v : rcM) (c : Nat) : Option Value → rcM → Prop := fun r u => FrA v u ∧ match EV (v 1) c with
  | none => r = some (.int 0)
  | some q => r = some (.int 1) ∧ u 10 c = q.1 ∧ u 11 c = q.2
theorem settle_d {v : rcM} {c x y : Nat} : M_settle v c x y 0 10 = v 0 10 := by
  unfold M_settle M_set0
  split
  · rw [rcr_n (by decide), rcr_n (by decide), rcr_n (by decide)]
  · rw [rcr_n (by decide), rcr_n (by decide), rcr_n (by decide)]
set_option maxHeartbeats 4000000 in
set_option maxRecDepth 100000 in
theorem k_afresh {Y : rcY} {la : Launch} {v : rcM} {c0 : Nat} (hc0 : c0 < 10) (hw : WD (v 1)) : rcT shM 13 Y la 3 (yX6_afresh, cX6_afresh, 4, (some .boolean)) [.ref (Y.2.1 0), .int (nI c0)] (v) (KA v c0) := by
  refine rcT.of (by decide +kernel) (Nat.le_of_ble_eq_true rfl) (fun X F hn => ?_)
  have hst : HA (KA v c0) (fun w => rcJ shM 13 Y X (KA v c0) 40 [(0, .ref (Y.2.1 0)), (1, .int (nI c0))] [] w) := by
    refine ⟨?_, ?_, ?_, ?_⟩
    · intro w tp c hc10 ht10 hc hd h0 hH
      refine j_aload_n F.1 dX6_afresh_40 rfl ?_
      refine j_geti F (k := 10) inX6 rfl (by decide) fl_X6_88 ⟨by decide, rfl⟩ rfl dX6_afresh_41 ?_
      refine j_top hd ?_
      refine j_if_le F.1 142 dX6_afresh_44 (by decide) (fun h44 => ?_) (fun h44 => ?_)
      · exact absurd h44 (nI_nle (Nat.succ_pos _) (by omega))
      · refine j_aload_n F.1 dX6_afresh_47 rfl ?_
        refine j_getr F (k := 6) inX6 rfl (by decide) fl_X6_22 ⟨by decide, rfl⟩ rfl dX6_afresh_48 ?_
        refine j_aload_n F.1 dX6_afresh_51 rfl ?_
        refine j_geti F (k := 10) inX6 rfl (by decide) fl_X6_88 ⟨by decide, rfl⟩ rfl dX6_afresh_52 ?_
        refine j_iconst F.1 (1) dX6_afresh_55 (by decide) ?_
        refine j_isub F.1 dX6_afresh_56 ?_
        refine j_iald F ⟨by decide, rfl⟩ (by rw [hd, nI_pred]) (by omega) (by decide) dX6_afresh_57 ?_
        refine j_top hc ?_
        refine j_istore_n F.1 dX6_afresh_58 (by rw [hn]; decide) ?_
        refine j_aload_n F.1 dX6_afresh_59 rfl ?_
        refine j_iload_n F.1 dX6_afresh_60 rfl ?_
        refine j_iconst F.1 (0) dX6_afresh_61 (by decide) ?_
        refine j_callVi F (k_of hc10 (by decide)) co_X6_of ml_X6_55 im_X6_of se_X6_of in_X6 rc_X6_of rfl (by decide) (by decide) ⟨by decide, rfl⟩ rfl rfl (Nat.le_of_ble_eq_true rfl) dX6_afresh_62 ?_
        refine j_top (y := 0) h0 ?_
        refine j_if_ne F.1 72 dX6_afresh_65 (by decide) (fun h65 => False.elim (by revert h65; decide)) (fun _ => ?_)
        refine j_iconst F.1 (-1) dX6_afresh_68 (by decide) ?_
        refine j_goto F.1 77 dX6_afresh_69 (by decide) ?_
        refine j_istore_n F.1 dX6_afresh_77 (by rw [hn]; decide) ?_
        refine j_iload_n F.1 dX6_afresh_78 rfl ?_
        refine j_if_ge F.1 100 dX6_afresh_79 (by decide) (fun h79 => False.elim (by revert h79; decide)) (fun _ => ?_)
        refine j_aload_n F.1 dX6_afresh_82 rfl ?_
        refine j_iload_n F.1 dX6_afresh_83 rfl ?_
        refine j_callVv F (k_settles (x := 0) (y := 0) hc10 (fun z => absurd z (by rw [h0]; decide)) (fun z => absurd z (by rw [h0]; decide))) co_X6_settles ml_X6_156 im_X6_settles se_X6_settles in_X6 rc_X6_settles rfl (by decide) (by decide) ⟨by decide, rfl⟩ rfl rfl (Nat.le_of_ble_eq_true rfl) dX6_afresh_84 ?_
        refine j_aload_n F.1 dX6_afresh_87 rfl ?_
        refine j_dup F.1 dX6_afresh_88 rfl ?_
        refine j_geti F (k := 10) inX6 rfl (by decide) fl_X6_88 ⟨by decide, rfl⟩ rfl dX6_afresh_89 ?_
        refine j_iconst F.1 (1) dX6_afresh_92 (by decide) ?_
        refine j_isub F.1 dX6_afresh_93 ?_
        refine j_top (y := nI tp) (by rw [settle_d, hd, nI_pred]) ?_
        refine j_puti F (k := 10) inX6 tyX6_ok nmX6 rfl (by decide) fl_X6_88 rfl rfl ⟨by decide, rfl⟩ rfl dX6_afresh_94 ?_
        refine j_goto F.1 139 dX6_afresh_97 (by decide) ?_
        refine j_goto F.1 40 dX6_afresh_139 (by decide) ?_
        refine j_loc [(0, .ref (Y.2.1 0)), (1, .int (nI c0))] rfl ?_
        exact hH
    · intro w tp c x y z hc10 ht10 hc hd hpos hx hx10 hy hy10 hwant hxc hz10 hzc hz hH
      refine j_aload_n F.1 dX6_afresh_40 rfl ?_
      refine j_geti F (k := 10) inX6 rfl (by decide) fl_X6_88 ⟨by decide, rfl⟩ rfl dX6_afresh_41 ?_
      refine j_top hd ?_
      refine j_if_le F.1 142 dX6_afresh_44 (by decide) (fun h44 => ?_) (fun h44 => ?_)
      · exact absurd h44 (nI_nle (Nat.succ_pos _) (by omega))
      · refine j_aload_n F.1 dX6_afresh_47 rfl ?_
        refine j_getr F (k := 6) inX6 rfl (by decide) fl_X6_22 ⟨by decide, rfl⟩ rfl dX6_afresh_48 ?_
        refine j_aload_n F.1 dX6_afresh_51 rfl ?_
        refine j_geti F (k := 10) inX6 rfl (by decide) fl_X6_88 ⟨by decide, rfl⟩ rfl dX6_afresh_52 ?_
        refine j_iconst F.1 (1) dX6_afresh_55 (by decide) ?_
        refine j_isub F.1 dX6_afresh_56 ?_
        refine j_iald F ⟨by decide, rfl⟩ (by rw [hd, nI_pred]) (by omega) (by decide) dX6_afresh_57 ?_
        refine j_top hc ?_
        refine j_istore_n F.1 dX6_afresh_58 (by rw [hn]; decide) ?_
        refine j_aload_n F.1 dX6_afresh_59 rfl ?_
        refine j_iload_n F.1 dX6_afresh_60 rfl ?_
        refine j_iconst F.1 (0) dX6_afresh_61 (by decide) ?_
        refine j_callVi F (k_of hc10 (by decide)) co_X6_of ml_X6_55 im_X6_of se_X6_of in_X6 rc_X6_of rfl (by decide) (by decide) ⟨by decide, rfl⟩ rfl rfl (Nat.le_of_ble_eq_true rfl) dX6_afresh_62 ?_
        refine j_if_ne F.1 72 dX6_afresh_65 (by decide) (fun h65 => ?_) (fun h65 => ?_)
        · refine j_aload_n F.1 dX6_afresh_72 rfl ?_
          refine j_iload_n F.1 dX6_afresh_73 rfl ?_
          refine j_callVi F (k_wantedBy hc10 hx hx10 hy hy10) co_X6_wantedBy ml_X6_153 im_X6_wantedBy se_X6_wantedBy in_X6 rc_X6_wantedBy rfl (by decide) (by decide) ⟨by decide, rfl⟩ rfl rfl (Nat.le_of_ble_eq_true rfl) dX6_afresh_74 ?_
          refine j_top (y := -1) hwant ?_
          refine j_istore_n F.1 dX6_afresh_77 (by rw [hn]; decide) ?_
          refine j_iload_n F.1 dX6_afresh_78 rfl ?_
          refine j_if_ge F.1 100 dX6_afresh_79 (by decide) (fun h79 => False.elim (by revert h79; decide)) (fun _ => ?_)
          refine j_aload_n F.1 dX6_afresh_82 rfl ?_
          refine j_iload_n F.1 dX6_afresh_83 rfl ?_
          refine j_callVv F (k_settles (x := x) (y := z) hc10 (fun _ => ⟨hx, hx10, hxc⟩) (fun _ => ⟨hz10, hzc, hz⟩)) co_X6_settles ml_X6_156 im_X6_settles se_X6_settles in_X6 rc_X6_settles rfl (by decide) (by decide) ⟨by decide, rfl⟩ rfl rfl (Nat.le_of_ble_eq_true rfl) dX6_afresh_84 ?_
          refine j_aload_n F.1 dX6_afresh_87 rfl ?_
          refine j_dup F.1 dX6_afresh_88 rfl ?_
          refine j_geti F (k := 10) inX6 rfl (by decide) fl_X6_88 ⟨by decide, rfl⟩ rfl dX6_afresh_89 ?_
          refine j_iconst F.1 (1) dX6_afresh_92 (by decide) ?_
          refine j_isub F.1 dX6_afresh_93 ?_
          refine j_top (y := nI tp) (by rw [settle_d, hd, nI_pred]) ?_
          refine j_puti F (k := 10) inX6 tyX6_ok nmX6 rfl (by decide) fl_X6_88 rfl rfl ⟨by decide, rfl⟩ rfl dX6_afresh_94 ?_
          refine j_goto F.1 139 dX6_afresh_97 (by decide) ?_
          refine j_goto F.1 40 dX6_afresh_139 (by decide) ?_
          refine j_loc [(0, .ref (Y.2.1 0)), (1, .int (nI c0))] rfl ?_
          exact hH
        · exact absurd hpos (by rw [h65]; decide)
    · intro w tp c x y d hc10 ht10 hc hd h0 hx hx10 hy hy10 hwant hd10 h9 hK
      refine j_aload_n F.1 dX6_afresh_40 rfl ?_
      refine j_geti F (k := 10) inX6 rfl (by decide) fl_X6_88 ⟨by decide, rfl⟩ rfl dX6_afresh_41 ?_
      refine j_top hd ?_
      refine j_if_le F.1 142 dX6_afresh_44 (by decide) (fun h44 => ?_) (fun h44 => ?_)
      · exact absurd h44 (nI_nle (Nat.succ_pos _) (by omega))
      · refine j_aload_n F.1 dX6_afresh_47 rfl ?_
        refine j_getr F (k := 6) inX6 rfl (by decide) fl_X6_22 ⟨by decide, rfl⟩ rfl dX6_afresh_48 ?_
        refine j_aload_n F.1 dX6_afresh_51 rfl ?_
        refine j_geti F (k := 10) inX6 rfl (by decide) fl_X6_88 ⟨by decide, rfl⟩ rfl dX6_afresh_52 ?_
        refine j_iconst F.1 (1) dX6_afresh_55 (by decide) ?_
        refine j_isub F.1 dX6_afresh_56 ?_
        refine j_iald F ⟨by decide, rfl⟩ (by rw [hd, nI_pred]) (by omega) (by decide) dX6_afresh_57 ?_
        refine j_top hc ?_
        refine j_istore_n F.1 dX6_afresh_58 (by rw [hn]; decide) ?_
        refine j_aload_n F.1 dX6_afresh_59 rfl ?_
        refine j_iload_n F.1 dX6_afresh_60 rfl ?_
        refine j_iconst F.1 (0) dX6_afresh_61 (by decide) ?_
        refine j_callVi F (k_of hc10 (by decide)) co_X6_of ml_X6_55 im_X6_of se_X6_of in_X6 rc_X6_of rfl (by decide) (by decide) ⟨by decide, rfl⟩ rfl rfl (Nat.le_of_ble_eq_true rfl) dX6_afresh_62 ?_
        refine j_if_ne F.1 72 dX6_afresh_65 (by decide) (fun h65 => ?_) (fun h65 => ?_)
        · refine j_aload_n F.1 dX6_afresh_72 rfl ?_
          refine j_iload_n F.1 dX6_afresh_73 rfl ?_
          refine j_callVi F (k_wantedBy hc10 hx hx10 hy hy10) co_X6_wantedBy ml_X6_153 im_X6_wantedBy se_X6_wantedBy in_X6 rc_X6_wantedBy rfl (by decide) (by decide) ⟨by decide, rfl⟩ rfl rfl (Nat.le_of_ble_eq_true rfl) dX6_afresh_74 ?_
          refine j_top (y := nI d) hwant ?_
          refine j_istore_n F.1 dX6_afresh_77 (by rw [hn]; decide) ?_
          refine j_iload_n F.1 dX6_afresh_78 rfl ?_
          refine j_if_ge F.1 100 dX6_afresh_79 (by decide) (fun h79 => ?_) (fun h79 => ?_)
          · refine j_aload_n F.1 dX6_afresh_100 rfl ?_
            refine j_getr F (k := 12) inX6 rfl (by decide) fl_X6_34 ⟨by decide, rfl⟩ rfl dX6_afresh_101 ?_
            refine j_iload_n F.1 dX6_afresh_104 rfl ?_
            refine j_iald F ⟨by decide, rfl⟩ rfl (by omega) (by decide) dX6_afresh_105 ?_
            refine j_top (y := 1) h9 ?_
            refine j_iconst F.1 (1) dX6_afresh_106 (by decide) ?_
            refine j_icmp_ne F.1 112 dX6_afresh_107 (by decide) (fun h107 => False.elim (by revert h107; decide)) (fun _ => ?_)
            refine j_iconst F.1 (0) dX6_afresh_110 (by decide) ?_
            exact j_zret F (by first | exact Or.inl rfl | exact Or.inr rfl | exact b2_01 _) dX6_afresh_111 ((hK))
          · exact absurd (nI_pos' (by omega)) h79
        · exact absurd h65 h0
    · intro w tp c x y d hc10 ht10 hc hd h0 hx hx10 hy hy10 hwant hd10 h9 htp hH
      refine j_aload_n F.1 dX6_afresh_40 rfl ?_
      refine j_geti F (k := 10) inX6 rfl (by decide) fl_X6_88 ⟨by decide, rfl⟩ rfl dX6_afresh_41 ?_
      refine j_top hd ?_
      refine j_if_le F.1 142 dX6_afresh_44 (by decide) (fun h44 => ?_) (fun h44 => ?_)
      · exact absurd h44 (nI_nle (Nat.succ_pos _) (by omega))
      · refine j_aload_n F.1 dX6_afresh_47 rfl ?_
        refine j_getr F (k := 6) inX6 rfl (by decide) fl_X6_22 ⟨by decide, rfl⟩ rfl dX6_afresh_48 ?_
        refine j_aload_n F.1 dX6_afresh_51 rfl ?_
        refine j_geti F (k := 10) inX6 rfl (by decide) fl_X6_88 ⟨by decide, rfl⟩ rfl dX6_afresh_52 ?_
        refine j_iconst F.1 (1) dX6_afresh_55 (by decide) ?_
        refine j_isub F.1 dX6_afresh_56 ?_
        refine j_iald F ⟨by decide, rfl⟩ (by rw [hd, nI_pred]) (by omega) (by decide) dX6_afresh_57 ?_
        refine j_top hc ?_
        refine j_istore_n F.1 dX6_afresh_58 (by rw [hn]; decide) ?_
        refine j_aload_n F.1 dX6_afresh_59 rfl ?_
        refine j_iload_n F.1 dX6_afresh_60 rfl ?_
        refine j_iconst F.1 (0) dX6_afresh_61 (by decide) ?_
        refine j_callVi F (k_of hc10 (by decide)) co_X6_of ml_X6_55 im_X6_of se_X6_of in_X6 rc_X6_of rfl (by decide) (by decide) ⟨by decide, rfl⟩ rfl rfl (Nat.le_of_ble_eq_true rfl) dX6_afresh_62 ?_
        refine j_if_ne F.1 72 dX6_afresh_65 (by decide) (fun h65 => ?_) (fun h65 => ?_)
        · refine j_aload_n F.1 dX6_afresh_72 rfl ?_
          refine j_iload_n F.1 dX6_afresh_73 rfl ?_
          refine j_callVi F (k_wantedBy hc10 hx hx10 hy hy10) co_X6_wantedBy ml_X6_153 im_X6_wantedBy se_X6_wantedBy in_X6 rc_X6_wantedBy rfl (by decide) (by decide) ⟨by decide, rfl⟩ rfl rfl (Nat.le_of_ble_eq_true rfl) dX6_afresh_74 ?_
          refine j_top (y := nI d) hwant ?_
          refine j_istore_n F.1 dX6_afresh_77 (by rw [hn]; decide) ?_
          refine j_iload_n F.1 dX6_afresh_78 rfl ?_
          refine j_if_ge F.1 100 dX6_afresh_79 (by decide) (fun h79 => ?_) (fun h79 => ?_)
          · refine j_aload_n F.1 dX6_afresh_100 rfl ?_
            refine j_getr F (k := 12) inX6 rfl (by decide) fl_X6_34 ⟨by decide, rfl⟩ rfl dX6_afresh_101 ?_
            refine j_iload_n F.1 dX6_afresh_104 rfl ?_
            refine j_iald F ⟨by decide, rfl⟩ rfl (by omega) (by decide) dX6_afresh_105 ?_
            refine j_iconst F.1 (1) dX6_afresh_106 (by decide) ?_
            refine j_icmp_ne F.1 112 dX6_afresh_107 (by decide) (fun h107 => ?_) (fun h107 => ?_)
            · refine j_aload_n F.1 dX6_afresh_112 rfl ?_
              refine j_getr F (k := 12) inX6 rfl (by decide) fl_X6_34 ⟨by decide, rfl⟩ rfl dX6_afresh_113 ?_
              refine j_iload_n F.1 dX6_afresh_116 rfl ?_
              refine j_iconst F.1 (1) dX6_afresh_117 (by decide) ?_
              refine j_iast F ⟨by decide, rfl⟩ rfl (by omega) (by decide) dX6_afresh_118 ?_
              refine j_aload_n F.1 dX6_afresh_119 rfl ?_
              refine j_getr F (k := 6) inX6 rfl (by decide) fl_X6_22 ⟨by decide, rfl⟩ rfl dX6_afresh_120 ?_
              refine j_aload_n F.1 dX6_afresh_123 rfl ?_
              refine j_geti F (k := 10) inX6 rfl (by decide) fl_X6_88 ⟨by decide, rfl⟩ rfl dX6_afresh_124 ?_
              refine j_iload_n F.1 dX6_afresh_127 rfl ?_
              refine j_iast F ⟨by decide, rfl⟩ (by rw [rcu_ne (by decide)]; exact hd) (by omega) (by decide) dX6_afresh_128 ?_
              refine j_aload_n F.1 dX6_afresh_129 rfl ?_
              refine j_dup F.1 dX6_afresh_130 rfl ?_
              refine j_geti F (k := 10) inX6 rfl (by decide) fl_X6_88 ⟨by decide, rfl⟩ rfl dX6_afresh_131 ?_
              refine j_iconst F.1 (1) dX6_afresh_134 (by decide) ?_
              refine j_iadd F.1 dX6_afresh_135 ?_
              refine j_top (y := nI (tp + 1 + 1)) (by rw [rcu_ne (by decide), rcu_ne (by decide), hd, nI_1]) ?_
              refine j_puti F (k := 10) inX6 tyX6_ok nmX6 rfl (by decide) fl_X6_88 rfl rfl ⟨by decide, rfl⟩ rfl dX6_afresh_136 ?_
              refine j_goto F.1 40 dX6_afresh_139 (by decide) ?_
              refine j_loc [(0, .ref (Y.2.1 0)), (1, .int (nI c0))] rfl ?_
              exact hH
            · exact absurd h107 h9
          · exact absurd (nI_pos' (by omega)) h79
        · exact absurd h65 h0
  have fin : rcJ shM 13 Y X (KA v c0) 40 [(0, .ref (Y.2.1 0)), (1, .int (nI c0))] [] (rcu (rcu (rcu (rcr v 9 (cp 10 (fun _ => 0) (v 9))) 0 10 1) 5 0 (nI c0)) 9 c0 1) := by
    generalize ew : rcu (rcu (rcu (rcr v 9 (cp 10 (fun _ => 0) (v 9))) 0 10 1) 5 0 (nI c0)) 9 c0 1 = w0
    have F0 : FrA v w0 := by
      subst ew
      refine ⟨fun id h0 h5 h9 h10 h11 => ?_, fun j h => ?_⟩
      · rw [rcu_ne h9, rcu_ne h5, rcu_ne h0, rcr_n h9]
      · rw [rcu_ne (by decide), rcu_ne (by decide), rcu_k h, rcr_n (by decide)]
    have e1 : w0 1 = v 1 := F0.1 1 (by decide) (by decide) (by decide) (by decide) (by decide)
    have e9 : ∀ i, i < 10 → w0 9 i = if i = c0 then 1 else 0 := fun i hi => by
      subst ew
      by_cases e : i = c0
      · subst e; rw [rcu_self, if_pos rfl]
      · rw [rcu_k e, rcu_ne (by decide), rcu_ne (by decide), rcr_s, cp_lt hi, if_neg e]
    have I0 : AI (v 1) w0 [c0] := by
      refine ⟨e1, ?_, ⟨?_, trivial⟩, ⟨List.nodup_cons.mpr ⟨List.not_mem_nil, List.nodup_nil⟩, fun o ho => by rw [List.mem_singleton.mp ho]; exact hc0⟩, ⟨fun o ho => (by cases ho), trivial⟩, fun i hi => ?_, fun i hi hn => ?_⟩
      · subst ew; rw [rcu_ne (by decide), rcu_ne (by decide), rcu_self]; rfl
      · subst ew; rw [rcu_ne (by decide)]; exact rcu_self
      · rw [List.mem_singleton.mp hi, e9 c0 hc0, if_pos rfl]
      · rw [e9 i hi, if_neg (fun e : i = c0 => hn (e ▸ List.mem_cons_self))]; exact Or.inl rfl
    refine VA_all hst hw 10 [] c0 w0 I0 (by decide) List.mem_cons_self (fun w fr hN => ?_) ?_
    · unfold KA; rw [EV_none hN]; exact ⟨F0.tr fr, rfl⟩
    · intro w fr hI h2 _
      obtain ⟨m, he⟩ : ∃ m, ev m (v 1) c0 = some (w 10 c0, w 11 c0) := by
        rcases hI.2.2.2.2.2.2 c0 hc0 List.not_mem_nil with z | z
        · exact absurd (h2.symm.trans z) (by decide)
        · exact z.2
      refine j_aload_n F.1 dX6_afresh_40 rfl ?_
      refine j_geti F (k := 10) inX6 rfl (by decide) fl_X6_88 ⟨by decide, rfl⟩ rfl dX6_afresh_41 ?_
      refine j_top (y := 0) (by rw [hI.2.1]; rfl) ?_
      refine j_if_le F.1 142 dX6_afresh_44 (by decide) (fun _ => ?_) (fun h44 => False.elim (by revert h44; decide))
      refine j_iconst F.1 (1) dX6_afresh_142 (by decide) ?_
      exact j_zret F (by first | exact Or.inl rfl | exact Or.inr rfl | exact b2_01 _) dX6_afresh_143 ((by unfold KA; rw [EV_some he]; exact ⟨F0.tr fr, rfl, rfl, rfl⟩))
  have loop : ∀ r t : Nat, t ≤ 10 → 10 < t + r → rcJ shM 13 Y X (KA v c0) 2 [(2, .int (nI (t))), (0, .ref (Y.2.1 0)), (1, .int (nI c0))] [] (rcr v 9 (cp (t) (fun _ => 0) (v 9))) := by
    intro r
    induction r with
    | zero => intro t ht hr; omega
    | succ r ih =>
      intro t ht hr
      refine j_iload_n F.1 dX6_afresh_2 rfl ?_
      refine j_bipush F.1 (10) dX6_afresh_3 (by decide) ?_
      refine j_icmp_ge F.1 21 dX6_afresh_5 (by decide) (fun h5 => ?_) (fun h5 => ?_)
      · have q5 : 10 ≤ t := (nI_leI (a := 10) (b := t) (by omega) (by omega)).mp h5
        refine j_aload_n F.1 dX6_afresh_21 rfl ?_
        refine j_iconst F.1 (1) dX6_afresh_22 (by decide) ?_
        refine j_puti F (k := 10) inX6 tyX6_ok nmX6 rfl (by decide) fl_X6_88 rfl rfl ⟨by decide, rfl⟩ rfl dX6_afresh_23 ?_
        refine j_aload_n F.1 dX6_afresh_26 rfl ?_
        refine j_getr F (k := 6) inX6 rfl (by decide) fl_X6_22 ⟨by decide, rfl⟩ rfl dX6_afresh_27 ?_
        refine j_iconst F.1 (0) dX6_afresh_30 (by decide) ?_
        refine j_iload_n F.1 dX6_afresh_31 rfl ?_
        refine j_iast F ⟨by decide, rfl⟩ rfl (by decide) (by decide) dX6_afresh_32 ?_
        refine j_aload_n F.1 dX6_afresh_33 rfl ?_
        refine j_getr F (k := 12) inX6 rfl (by decide) fl_X6_34 ⟨by decide, rfl⟩ rfl dX6_afresh_34 ?_
        refine j_iload_n F.1 dX6_afresh_37 rfl ?_
        refine j_iconst F.1 (1) dX6_afresh_38 (by decide) ?_
        refine j_iast F ⟨by decide, rfl⟩ rfl (by omega) (by decide) dX6_afresh_39 ?_
        refine j_loc [(0, .ref (Y.2.1 0)), (1, .int (nI c0))] rfl ?_
        rw [Nat.le_antisymm ht q5]
        exact fin
      · have q5 : t < 10 := Nat.lt_of_not_le (fun z => h5 ((nI_leI (a := 10) (b := t) (by omega) (by omega)).mpr z))
        refine j_aload_n F.1 dX6_afresh_8 rfl ?_
        refine j_getr F (k := 12) inX6 rfl (by decide) fl_X6_34 ⟨by decide, rfl⟩ rfl dX6_afresh_9 ?_
        refine j_iload_n F.1 dX6_afresh_12 rfl ?_
        refine j_iconst F.1 (0) dX6_afresh_13 (by decide) ?_
        refine j_iast F ⟨by decide, rfl⟩ rfl (by omega) (by decide) dX6_afresh_14 ?_
        refine j_iinc F.1 (1) dX6_afresh_15 (by decide) rfl (by rw [hn]; decide) ?_
        refine j_goto F.1 2 dX6_afresh_18 (by decide) ?_
        refine j_loc [(2, .int (nI (t + 1))), (0, .ref (Y.2.1 0)), (1, .int (nI c0))] (by rw [← nI_1]; rfl) ?_
        rw [rcu_r, rcr_rcr, rcr_s, show upd (cp t (fun _ => 0) (v 9)) t 0 = cp (t + 1) (fun _ => 0) (v 9) from cp_s (f := fun _ => 0)]
        exact ih (t + 1) (by omega) (by omega)
  refine j_iconst F.1 (0) dX6_afresh_0 (by decide) ?_
  refine j_istore_n F.1 dX6_afresh_1 (by rw [hn]; decide) ?_
  refine j_loc [(2, .int (nI (0))), (0, .ref (Y.2.1 0)), (1, .int (nI c0))] rfl ?_
  have e := loop 11 0 (by omega) (by omega)
  rw [cp_0, rcr_self] at e
  exact e
