/-! The class: sets, and what acts. -/
set_option maxHeartbeats 4000000 in
set_option maxRecDepth 100000 in
theorem c_which {Y : rcY} {la : Launch} {v : rcM} {f p tx : Nat → Int32} {n ln : Nat} (hn4 : n ≤ 4) (hC : CR v f p n tx ln) (hw : WF f) {x : Int32} : rcT shC 139 Y la 49 (yX5_which, cX5_which, 4, (some .int)) [.ref (Y.2.1 0), .int x] (v) (KX (S_which f x) f p n tx ln) := by
  refine rcT.of (by decide +kernel) (Nat.le_of_ble_eq_true rfl) (fun X F hn => ?_)
  by_cases hq : 0 ≤ x ∧ x ≤ 4
  · skip
    have loop : ∀ r t : Nat, t ≤ 10 → 10 < t + r → ∀ u, CR u f p n tx ln → rcJ shC 139 Y X (KX (S_which f x) f p n tx ln) 16 [(3, .int (nI (t))), (2, .int (whF f x (t))), (0, .ref (Y.2.1 0)), (1, .int x)] [] u := by
      intro r
      induction r with
      | zero => intro t ht hr; omega
      | succ r ih =>
        intro t ht hr
        intro u hu
        refine j_iload_n F.1 dX5_which_16 rfl ?_
        refine j_bipush F.1 (10) dX5_which_17 (by decide) ?_
        refine j_icmp_ge F.1 43 dX5_which_19 (by decide) (fun h19 => ?_) (fun h19 => ?_)
        · have q19 : 10 ≤ t := (nI_leI (a := 10) (b := t) (by omega) (by omega)).mp h19
          have t10 : t = 10 := by omega
          subst t10
          refine j_iload_n F.1 dX5_which_43 rfl ?_
          exact j_iret F dX5_which_44 ((by unfold S_which; rw [if_pos hq]; exact ⟨rfl, hu⟩))
        · have q19 : t < 10 := Nat.lt_of_not_le (fun z => h19 ((nI_leI (a := 10) (b := t) (by omega) (by omega)).mpr z))
          refine j_aload_n F.1 dX5_which_22 rfl ?_
          refine j_iload_n F.1 dX5_which_23 rfl ?_
          refine j_iload_n F.1 dX5_which_24 rfl ?_
          refine j_callV F (c_isOneOf hn4 hu hw (show t < 10 by omega)) co_X5_isOneOf ml_X5_159 im_X5_isOneOf se_X5_isOneOf in_X5 rc_X5_isOneOf rfl (by decide) (by decide) ⟨by decide, rfl⟩ rfl rfl (Nat.le_of_ble_eq_true rfl) dX5_which_25 (fun r u hr => ?_)
          obtain ⟨rfl, hu2⟩ := hr
          refine j_tl ?_
          refine j_if_eq F.1 37 dX5_which_28 (by decide) (fun h28 => ?_) (fun h28 => ?_)
          · have ho : whF f x (t + 1) = whF f x t := by show whF f x t ||| (if one f t x = 0 then 0 else bitI (nI t)) = _; rw [if_pos h28]; exact Int32.or_zero
            refine j_iinc F.1 (1) dX5_which_37 (by decide) rfl (by rw [hn]; decide) ?_
            refine j_goto F.1 16 dX5_which_40 (by decide) ?_
            refine j_loc [(3, .int (nI (t + 1))), (2, .int (whF f x (t + 1))), (0, .ref (Y.2.1 0)), (1, .int x)] (by rw [ho, ← nI_1]; rfl) ?_
            exact ih (t + 1) (by omega) (by omega) _ hu2
          · have ho : whF f x (t + 1) = whF f x t ||| bitI (nI t) := by show whF f x t ||| (if one f t x = 0 then 0 else bitI (nI t)) = _; rw [if_neg h28]
            refine j_iload_n F.1 dX5_which_31 rfl ?_
            refine j_iconst F.1 (1) dX5_which_32 (by decide) ?_
            refine j_iload_n F.1 dX5_which_33 rfl ?_
            refine j_ishl F.1 dX5_which_34 ?_
            refine j_ior F.1 dX5_which_35 ?_
            refine j_istore_n F.1 dX5_which_36 (by rw [hn]; decide) ?_
            refine j_iinc F.1 (1) dX5_which_37 (by decide) rfl (by rw [hn]; decide) ?_
            refine j_goto F.1 16 dX5_which_40 (by decide) ?_
            refine j_loc [(3, .int (nI (t + 1))), (2, .int (whF f x (t + 1))), (0, .ref (Y.2.1 0)), (1, .int x)] (by rw [ho, ← nI_1]; rfl) ?_
            exact ih (t + 1) (by omega) (by omega) _ hu2
    refine j_iload_n F.1 dX5_which_0 rfl ?_
    refine j_iconst F.1 (0) dX5_which_1 (by decide) ?_
    refine j_iconst F.1 (4) dX5_which_2 (by decide) ?_
    refine j_callSi F (c_isWithin) co_X5_isWithin ml_X5_75 st_X5_isWithin in_X5 rc_X5_isWithin rfl (by decide) (by decide) rfl (Nat.le_of_ble_eq_true rfl) dX5_which_3 ?_
    refine j_top (y := 1) (b2_t hq) ?_
    refine j_if_ne F.1 12 dX5_which_6 (by decide) (fun h6 => ?_) (fun h6 => ?_)
    · refine j_iconst F.1 (0) dX5_which_12 (by decide) ?_
      refine j_istore_n F.1 dX5_which_13 (by rw [hn]; decide) ?_
      refine j_iconst F.1 (0) dX5_which_14 (by decide) ?_
      refine j_istore_n F.1 dX5_which_15 (by rw [hn]; decide) ?_
      refine j_loc [(3, .int (nI (0))), (2, .int (whF f x (0))), (0, .ref (Y.2.1 0)), (1, .int x)] rfl ?_
      exact loop 11 0 (by omega) (by omega) v hC
    · exact absurd h6 (by decide)
  · refine j_iload_n F.1 dX5_which_0 rfl ?_
    refine j_iconst F.1 (0) dX5_which_1 (by decide) ?_
    refine j_iconst F.1 (4) dX5_which_2 (by decide) ?_
    refine j_callSi F (c_isWithin) co_X5_isWithin ml_X5_75 st_X5_isWithin in_X5 rc_X5_isWithin rfl (by decide) (by decide) rfl (Nat.le_of_ble_eq_true rfl) dX5_which_3 ?_
    refine j_top (y := 0) (b2_f hq) ?_
    refine j_if_ne F.1 12 dX5_which_6 (by decide) (fun h6 => ?_) (fun h6 => ?_)
    · exact absurd rfl h6
    · refine j_ldc F cn_X5_47 dX5_which_9 ?_
      exact j_iret F dX5_which_11 ((by unfold S_which; rw [if_neg hq]; exact ⟨rfl, hC⟩))
theorem ub_s {f : Nat → Int32} {t c : Nat} (w : WF f) (ht : t < 10) (hc : c < 10) : (usF f t = -2000000002 → ubF f (nI c) (t + 1) = ubF f (nI c) t) ∧ (¬ usF f t = -2000000002 → (usF f t &&& bitI (nI c) = 0 → ubF f (nI c) (t + 1) = ubF f (nI c) t) ∧ (¬ usF f t &&& bitI (nI c) = 0 → ubF f (nI c) (t + 1) = ubF f (nI c) t ||| bitI (nI t))) := by
  show (usF f t = -2000000002 → ubF f (nI c) t ||| ubb f (nI c) t = _) ∧ (¬ usF f t = -2000000002 → (usF f t &&& bitI (nI c) = 0 → ubF f (nI c) t ||| ubb f (nI c) t = _) ∧ (¬ usF f t &&& bitI (nI c) = 0 → ubF f (nI c) t ||| ubb f (nI c) t = _))
  unfold usF ubb
  have fl := FD_look w ht
  cases e : A_look 11 [] (FD f) t with
  | none =>
    rw [e] at fl
    rw [fl]
    exact ⟨fun _ => Int32.or_zero, fun z => absurd rfl z⟩
  | some g =>
    rw [e] at fl
    obtain ⟨m, S, v1, ev, -, -⟩ := fl
    rw [ev]
    dsimp only
    obtain ⟨s, hs, rfl⟩ := ev_S10 w.wd m t _ S ht v1
    have hh := S_has s hs c hc
    refine ⟨fun z => absurd z (S_pos s hs), fun _ => ⟨fun z => ?_, fun z => ?_⟩⟩
    · rw [if_neg (hh.mp z)]; exact Int32.or_zero
    · rw [if_pos (Classical.not_not.mp (fun q => z (hh.mpr q)))]
