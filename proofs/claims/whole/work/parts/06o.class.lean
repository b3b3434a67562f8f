/-! The class: sets, and what acts. -/
set_option maxHeartbeats 4000000 in
set_option maxRecDepth 100000 in
theorem c_which {Y : rcY} {la : Launch} {v : rcM} {f p tx : Nat → Int32} {n ln : Nat} (hn4 : n ≤ 4) (hC : CR v f p n tx ln) (hw : WF f) {x : Int32} : rcT shC 139 Y la 49 (yX5_which, cX5_which, 4, (some .int)) [.ref (Y.2.1 0), .int x] (v) (KX (S_which f x) f p n tx ln) := by
  refine rcT.of (by decide +kernel) (Nat.le_of_ble_eq_true rfl) (fun X F hn => ?_)
  by_cases hq : 0 ≤ x ∧ x ≤ 4
  · skip
    have loop : ∀ r t : Nat, t ≤ 10 → 10 < t + r → ∀ u, CR u f p n tx ln → rcJ shC 139 Y X (KX (S_which f x) f p n tx ln) 16 [(3, .int (nI (t))), (2, .int (whF f x (t))), (0, .ref (Y.2.1 0)), (1, .int x)] [] u := by
      intro r
      induction r with
      | zero => intro t ht hr; omega
      | succ r ih =>
        intro t ht hr
        intro u hu
        refine j_iload_n F.1 dX5_which_16 rfl ?_
        refine j_bipush F.1 (10) dX5_which_17 (by decide) ?_
        refine j_icmp_ge F.1 43 dX5_which_19 (by decide) (fun h19 => ?_) (fun h19 => ?_)
        · have q19 : 10 ≤ t := (nI_leI (a := 10) (b := t) (by omega) (by omega)).mp h19
          have t10 : t = 10 := by omega
          subst t10
          refine j_iload_n F.1 dX5_which_43 rfl ?_
          exact j_iret F dX5_which_44 ((by unfold S_which; rw [if_pos hq]; exact ⟨rfl, hu⟩))
        · have q19 : t < 10 := Nat.lt_of_not_le (fun z => h19 ((nI_leI (a := 10) (b := t) (by omega) (by omega)).mpr z))
          refine j_aload_n F.1 dX5_which_22 rfl ?_
          refine j_iload_n F.1 dX5_which_23 rfl ?_
          refine j_iload_n F.1 dX5_which_24 rfl ?_
          refine j_callV F (c_isOneOf hn4 hu hw (show t < 10 by omega)) co_X5_isOneOf ml_X5_159 im_X5_isOneOf se_X5_isOneOf in_X5 rc_X5_isOneOf rfl (by decide) (by decide) ⟨by decide, rfl⟩ rfl rfl (Nat.le_of_ble_eq_true rfl) dX5_which_25 (fun r u hr => ?_)
          obtain ⟨rfl, hu2⟩ := hr
          refine j_tl ?_
          refine j_if_eq F.1 37 dX5_which_28 (by decide) (fun h28 => ?_) (fun h28 => ?_)
          · have ho : whF f x (t + 1) = whF f x t := by show whF f x t ||| (if one f t x = 0 then 0 else bitI (nI t)) = _; rw [if_pos h28]; exact Int32.or_zero
            refine j_iinc F.1 (1) dX5_which_37 (by decide) rfl (by rw [hn]; decide) ?_
            refine j_goto F.1 16 dX5_which_40 (by decide) ?_
            refine j_loc [(3, .int (nI (t + 1))), (2, .int (whF f x (t + 1))), (0, .ref (Y.2.1 0)), (1, .int x)] (by rw [ho, ← nI_1]; rfl) ?_
            exact ih (t + 1) (by omega) (by omega) _ hu2
          · have ho : whF f x (t + 1) = whF f x t ||| bitI (nI t) := by show whF f x t ||| (if one f t x = 0 then 0 else bitI (nI t)) = _; rw [if_neg h28]
            refine j_iload_n F.1 dX5_which_31 rfl ?_
            refine j_iconst F.1 (1) dX5_which_32 (by decide) ?_
            refine j_iload_n F.1 dX5_which_33 rfl ?_
            refine j_ishl F.1 dX5_which_34 ?_
            refine j_ior F.1 dX5_which_35 ?_
            refine j_istore_n F.1 dX5_which_36 (by rw [hn]; decide) ?_
            refine j_iinc F.1 (1) dX5_which_37 (by decide) rfl (by rw [hn]; decide) ?_
            refine j_goto F.1 16 dX5_which_40 (by decide) ?_
            refine j_loc [(3, .int (nI (t + 1))), (2, .int (whF f x (t + 1))), (0, .ref (Y.2.1 0)), (1, .int x)] (by rw [ho, ← nI_1]; rfl) ?_
            exact ih (t + 1) (by omega) (by omega) _ hu2
    refine j_iload_n F.1 dX5_which_0 rfl ?_
    refine j_iconst F.1 (0) dX5_which_1 (by decide) ?_
    refine j_iconst F.1 (4) dX5_which_2 (by decide) ?_
    refine j_callSi F (c_isWithin) co_X5_isWithin ml_X5_75 st_X5_isWithin in_X5 rc_X5_isWithin rfl (by decide) (by decide) rfl (Nat.le_of_ble_eq_true rfl) dX5_which_3 ?_
    refine j_top (y := 1) (b2_t hq) ?_
    refine j_if_ne F.1 12 dX5_which_6 (by decide) (fun h6 => ?_) (fun h6 => ?_)
    · refine j_iconst F.1 (0) dX5_which_12 (by decide) ?_
      refine j_istore_n F.1 dX5_which_13 (by rw [hn]; decide) ?_
      refine j_iconst F.1 (0) dX5_which_14 (by decide) ?_
      refine j_istore_n F.1 dX5_which_15 (by rw [hn]; decide) ?_
      refine j_loc [(3, .int (nI (0))), (2, .int (whF f x (0))), (0, .ref (Y.2.1 0)), (1, .int x)] rfl ?_
      exact loop 11 0 (by omega) (by omega) v hC
    · exact absurd h6 (by decide)
  · refine j_iload_n F.1 dX5_which_0 rfl ?_
    refine j_iconst F.1 (0) dX5_which_1 (by decide) ?_
    refine j_iconst F.1 (4) dX5_which_2 (by decide) ?_
    refine j_callSi F (c_isWithin) co_X5_isWithin ml_X5_75 st_X5_isWithin in_X5 rc_X5_isWithin rfl (by decide) (by decide) rfl (Nat.le_of_ble_eq_true rfl) dX5_which_3 ?_
    refine j_top (y := 0) (b2_f hq) ?_
    refine j_if_ne F.1 12 dX5_which_6 (by decide) (fun h6 => ?_) (fun h6 => ?_)
    · exact absurd rfl h6
    · refine j_ldc F cn_X5_47 dX5_which_9 ?_
      exact j_iret F dX5_which_11 ((by unfold S_which; rw [if_neg hq]; exact ⟨rfl, hC⟩))
theorem ub_s {f : Nat → Int32} {t c : Nat} (w : WF f) (ht : t < 10) (hc : c < 10) : (usF f t = -2000000002 → ubF f (nI c) (t + 1) = ubF f (nI c) t) ∧ (¬ usF f t = -2000000002 → (usF f t &&& bitI (nI c) = 0 → ubF f (nI c) (t + 1) = ubF f (nI c) t) ∧ (¬ usF f t &&& bitI (nI c) = 0 → ubF f (nI c) (t + 1) = ubF f (nI c) t ||| bitI (nI t))) := by
  show (usF f t = -2000000002 → ubF f (nI c) t ||| ubb f (nI c) t = _) ∧ (¬ usF f t = -2000000002 → (usF f t &&& bitI (nI c) = 0 → ubF f (nI c) t ||| ubb f (nI c) t = _) ∧ (¬ usF f t &&& bitI (nI c) = 0 → ubF f (nI c) t ||| ubb f (nI c) t = _))
  unfold usF ubb
  have fl := FD_look w ht
  cases e : A_look 11 [] (FD f) t with
  | none =>
    rw [e] at fl
    rw [fl]
    exact ⟨fun _ => Int32.or_zero, fun z => absurd rfl z⟩
  | some g =>
    rw [e] at fl
    obtain ⟨m, S, v1, ev, -, -⟩ := fl
    rw [ev]
    dsimp only
    obtain ⟨s, hs, rfl⟩ := ev_S10 w.wd m t _ S ht v1
    have hh := S_has s hs c hc
    refine ⟨fun z => absurd z (S_pos s hs), fun _ => ⟨fun z => ?_, fun z => ?_⟩⟩
    · rw [if_neg (hh.mp z)]; exact Int32.or_zero
    · rw [if_pos (Classical.not_not.mp (fun q => z (hh.mpr q)))]
set_option maxHeartbeats 4000000 in
set_option maxRecDepth 100000 in
theorem c_usedBy {Y : rcY} {la : Launch} {v : rcM} {f p tx : Nat → Int32} {n ln : Nat} (hn4 : n ≤ 4) (hC : CR v f p n tx ln) (hw : WF f) {c : Int32} : rcT shC 139 Y la 48 (yX5_usedBy, cX5_usedBy, 5, (some .int)) [.ref (Y.2.1 0), .int c] (v) (KX (S_usedBy f c) f p n tx ln) := by
  refine rcT.of (by decide +kernel) (Nat.le_of_ble_eq_true rfl) (fun X F hn => ?_)
  refine j_iload_n F.1 dX5_usedBy_0 rfl ?_
  refine j_callSi F (c_isCell) co_X5_isCell ml_X5_40 st_X5_isCell in_X5 rc_X5_isCell rfl (by decide) (by decide) rfl (Nat.le_of_ble_eq_true rfl) dX5_usedBy_1 ?_
  refine j_if_ne F.1 10 dX5_usedBy_4 (by decide) (fun h4 => ?_) (fun h4 => ?_)
  · rw [b2_0, Classical.not_not] at h4
    obtain ⟨i, hi, rfl⟩ := cell_of h4
    refine j_iconst F.1 (0) dX5_usedBy_10 (by decide) ?_
    refine j_istore_n F.1 dX5_usedBy_11 (by rw [hn]; decide) ?_
    refine j_iconst F.1 (0) dX5_usedBy_12 (by decide) ?_
    refine j_istore_n F.1 dX5_usedBy_13 (by rw [hn]; decide) ?_
    have loop : ∀ r t : Nat, t ≤ 10 → 10 < t + r → ∀ u, CR u f p n tx ln → rcJ shC 139 Y X (KX (S_usedBy f (nI i)) f p n tx ln) 14 [(3, .int (nI (t))), (2, .int (ubF f (nI i) (t))), (0, .ref (Y.2.1 0)), (1, .int (nI i))] [] u := by
      intro r
      induction r with
      | zero => intro t ht hr; omega
      | succ r ih =>
        intro t ht hr
        intro u hu
        refine j_iload_n F.1 dX5_usedBy_14 rfl ?_
        refine j_bipush F.1 (10) dX5_usedBy_15 (by decide) ?_
        refine j_icmp_ge F.1 55 dX5_usedBy_17 (by decide) (fun h17 => ?_) (fun h17 => ?_)
        · have q17 : 10 ≤ t := (nI_leI (a := 10) (b := t) (by omega) (by omega)).mp h17
          have t10 : t = 10 := by omega
          subst t10
          refine j_iload_n F.1 dX5_usedBy_55 rfl ?_
          exact j_iret F dX5_usedBy_56 ((by unfold S_usedBy; rw [if_pos (nI_in9 hi)]; exact ⟨rfl, hu⟩))
        · have q17 : t < 10 := Nat.lt_of_not_le (fun z => h17 ((nI_leI (a := 10) (b := t) (by omega) (by omega)).mpr z))
          refine j_aload_n F.1 dX5_usedBy_20 rfl ?_
          refine j_iload_n F.1 dX5_usedBy_21 rfl ?_
          refine j_callV F (c_usedAfresh hn4 hu hw (show t < 10 by omega)) co_X5_usedAfresh ml_X5_162 im_X5_usedAfresh se_X5_usedAfresh in_X5 rc_X5_usedAfresh rfl (by decide) (by decide) ⟨by decide, rfl⟩ rfl rfl (Nat.le_of_ble_eq_true rfl) dX5_usedBy_22 (fun r u hr => ?_)
          obtain ⟨rfl, hu2⟩ := hr
          refine j_tl ?_
          have hub := ub_s (t := t) (c := i) hw (by omega) hi
          refine j_istore F.1 dX5_usedBy_25 (by rw [hn]; decide) ?_
          refine j_iload F.1 dX5_usedBy_27 rfl ?_
          refine j_ldc F cn_X5_110 dX5_usedBy_29 ?_
          refine j_icmp_eq F.1 49 dX5_usedBy_31 (by decide) (fun h31 => ?_) (fun h31 => ?_)
          · have ho := hub.1 h31
            refine j_iinc F.1 (1) dX5_usedBy_49 (by decide) rfl (by rw [hn]; decide) ?_
            refine j_goto F.1 14 dX5_usedBy_52 (by decide) ?_
            refine j_loc [(3, .int (nI (t + 1))), (2, .int (ubF f (nI i) (t + 1))), (0, .ref (Y.2.1 0)), (1, .int (nI i))] (by rw [ho, ← nI_1]; rfl) ?_
            exact ih (t + 1) (by omega) (by omega) _ hu2
          · refine j_iload F.1 dX5_usedBy_34 rfl ?_
            refine j_iconst F.1 (1) dX5_usedBy_36 (by decide) ?_
            refine j_iload_n F.1 dX5_usedBy_37 rfl ?_
            refine j_ishl F.1 dX5_usedBy_38 ?_
            refine j_iand F.1 dX5_usedBy_39 ?_
            refine j_if_eq F.1 49 dX5_usedBy_40 (by decide) (fun h40 => ?_) (fun h40 => ?_)
            · have ho := (hub.2 h31).1 h40
              refine j_iinc F.1 (1) dX5_usedBy_49 (by decide) rfl (by rw [hn]; decide) ?_
              refine j_goto F.1 14 dX5_usedBy_52 (by decide) ?_
              refine j_loc [(3, .int (nI (t + 1))), (2, .int (ubF f (nI i) (t + 1))), (0, .ref (Y.2.1 0)), (1, .int (nI i))] (by rw [ho, ← nI_1]; rfl) ?_
              exact ih (t + 1) (by omega) (by omega) _ hu2
            · have ho := (hub.2 h31).2 h40
              refine j_iload_n F.1 dX5_usedBy_43 rfl ?_
              refine j_iconst F.1 (1) dX5_usedBy_44 (by decide) ?_
              refine j_iload_n F.1 dX5_usedBy_45 rfl ?_
              refine j_ishl F.1 dX5_usedBy_46 ?_
              refine j_ior F.1 dX5_usedBy_47 ?_
              refine j_istore_n F.1 dX5_usedBy_48 (by rw [hn]; decide) ?_
              refine j_iinc F.1 (1) dX5_usedBy_49 (by decide) rfl (by rw [hn]; decide) ?_
              refine j_goto F.1 14 dX5_usedBy_52 (by decide) ?_
              refine j_loc [(3, .int (nI (t + 1))), (2, .int (ubF f (nI i) (t + 1))), (0, .ref (Y.2.1 0)), (1, .int (nI i))] (by rw [ho, ← nI_1]; rfl) ?_
              exact ih (t + 1) (by omega) (by omega) _ hu2
    refine j_loc [(3, .int (nI (0))), (2, .int (ubF f (nI i) (0))), (0, .ref (Y.2.1 0)), (1, .int (nI i))] rfl ?_
    exact loop 11 0 (by omega) (by omega) v hC
  · rw [b2_0] at h4
    refine j_ldc F cn_X5_47 dX5_usedBy_7 ?_
    exact j_iret F dX5_usedBy_9 ((by unfold S_usedBy; rw [if_neg h4]; exact ⟨rfl, hC⟩))
