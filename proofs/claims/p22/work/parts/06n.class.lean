/-! The class: what is asked afresh. -/
noncomputable def usF (f : Nat → Int32) (c : Nat) : Int32 := match EV f c with
  | none => -2000000002
  | some q => q.2
theorem EV_ok {f : Nat → Int32} {c : Nat} {q : Int32 × Int32} (w : WF f) (hc : c < 10) (h : EV f c = some q) : okA q.1 := by
  have fl := FD_look w hc
  cases e : A_look 11 [] (FD f) c with
  | none => rw [e] at fl; rw [fl] at h; cases h
  | some g =>
    rw [e] at fl
    obtain ⟨m, S, -, ev, fr, -⟩ := fl
    rw [ev] at h
    cases h
    exact ans_ok ((A_look_good 11 _ _ _ _ hc (pre_0 (FD_wf w)) e).1.2.2.2.2.2.2 (FD_wf w)) hc fr
theorem ok_n {x : Int32} (h : okA x) : ¬ x = -2000000002 ∧ ¬ x = -2000000003 := by
  have g := okA_gt h
  refine ⟨fun z => g ?_, fun z => g ?_⟩
  · rw [z]; decide
  · rw [z]; decide
theorem told_n {f : Nat → Int32} {c : Nat} (e : EV f c = none) : toldF f c = -2000000002 := by unfold toldF; rw [e]
theorem told_s {f : Nat → Int32} {c : Nat} {q : Int32 × Int32} (e : EV f c = some q) : toldF f c = if q.1 = 2000000000 then -2000000003 else q.1 := by unfold toldF; rw [e]
theorem one_3 {f : Nat → Int32} {c : Nat} : one f c 3 = match EV f c with | none => 1 | some _ => 0 := by
  unfold one
  rw [if_neg (show ¬ (3 : Int32) = 0 by decide), if_neg (show ¬ (3 : Int32) = 1 by decide), if_neg (show ¬ (3 : Int32) = 2 by decide), if_pos (show (3 : Int32) = 3 from rfl)]
  cases EV f c <;> rfl
theorem told_2 {f : Nat → Int32} {c : Nat} (w : WF f) (hc : c < 10) : (toldF f c = -2000000002 → one f c 3 = 1) ∧ (¬ toldF f c = -2000000002 → one f c 3 = 0) := by
  rw [one_3]
  cases e : EV f c with
  | none => exact ⟨fun _ => rfl, fun z => absurd (told_n e) z⟩
  | some q =>
    refine ⟨fun z => ?_, fun _ => rfl⟩
    rw [told_s e] at z
    have := ok_n (EV_ok w hc e)
    by_cases h : q.1 = 2000000000
    · rw [if_pos h] at z; exact absurd z (by decide)
    · rw [if_neg h] at z; exact absurd z this.1
theorem told_3 {f : Nat → Int32} {c : Nat} {x : Int32} (w : WF f) (hc : c < 10) (h0 : ¬ x = 0) (h1 : ¬ x = 1) (h2 : ¬ x = 2) (h3 : ¬ x = 3) : (toldF f c = -2000000003 → one f c x = 1) ∧ (¬ toldF f c = -2000000003 → one f c x = 0) := by
  have eo : one f c x = match EV f c with | none => 0 | some q => b2 (q.1 = 2000000000) := by
    unfold one
    rw [if_neg h0, if_neg h1, if_neg h2, if_neg h3]
    cases EV f c <;> rfl
  rw [eo]
  cases e : EV f c with
  | none =>
    refine ⟨fun z => ?_, fun _ => rfl⟩
    rw [told_n e] at z
    exact absurd z (by decide)
  | some q =>
    have := ok_n (EV_ok w hc e)
    rw [told_s e]
    by_cases h : q.1 = 2000000000
    · rw [if_pos h]; exact ⟨fun _ => b2_t h, fun z => absurd rfl z⟩
    · rw [if_neg h]; exact ⟨fun z => absurd z this.2, fun _ => b2_f h⟩
theorem ev_same {f g : Nat → Int32} (h : ∀ c, g (ix c 0) = f (ix c 0) ∧ (f (ix c 0) = 0 → g (ix c 1) = f (ix c 1)) ∧ (¬ f (ix c 0) = 0 → g (ix c 2) = f (ix c 2) ∧ g (ix c 3) = f (ix c 3) ∧ g (ix c 4) = f (ix c 4))) : ∀ m c, ev m g c = ev m f c := by
  intro m
  induction m with
  | zero => intro c; rfl
  | succ m ih =>
    intro c
    obtain ⟨a0, a1, a2⟩ := h c
    rw [ev_s, ev_s, a0]
    by_cases h0 : f (ix c 0) = 0
    · rw [if_pos h0, if_pos h0, a1 h0]
    · obtain ⟨b2, b3, b4⟩ := a2 h0
      have hn : ∀ x, A_nxt g c x = A_nxt f c x := fun x => by unfold A_nxt; rw [a0, b3, b4]
      rw [if_neg h0, if_neg h0, b2, ih]
      cases ev m f (cN (f (ix c 2))) with
      | none => rfl
      | some q =>
        dsimp only
        rw [hn, ih]
theorem EV_same {f g : Nat → Int32} {c : Nat} (h : ∀ m c, ev m g c = ev m f c) : EV g c = EV f c := by
  by_cases z : ∃ q : Int32 × Int32, ∃ m, ev m f c = some q
  · obtain ⟨q, m, e⟩ := z
    rw [EV_some e, EV_some (show ev m g c = some q by rw [h]; exact e)]
  · have hn : Never f c := fun m => by
      cases e : ev m f c with
      | none => rfl
      | some q => exact absurd ⟨q, m, e⟩ z
    rw [EV_none hn, EV_none (fun m => by rw [h]; exact hn m)]
theorem as_def {f : Nat → Int32} {i : Nat} {x : Int32} : ∀ c, A_def f i 0 x 0 0 0 (ix c 0) = A_as f i x (ix c 0) ∧ (A_as f i x (ix c 0) = 0 → A_def f i 0 x 0 0 0 (ix c 1) = A_as f i x (ix c 1)) ∧ (¬ A_as f i x (ix c 0) = 0 → A_def f i 0 x 0 0 0 (ix c 2) = A_as f i x (ix c 2) ∧ A_def f i 0 x 0 0 0 (ix c 3) = A_as f i x (ix c 3) ∧ A_def f i 0 x 0 0 0 (ix c 4) = A_as f i x (ix c 4)) := by
  intro c
  have as0 : A_as f i x (ix i 0) = 0 := by unfold A_as; rw [pk_un (ix_j (by decide)), pk_us]
  have as1 : A_as f i x (ix i 1) = x := by unfold A_as; rw [pk_us]
  by_cases e : c = i
  · subst e
    refine ⟨?_, fun _ => ?_, fun z => absurd as0 z⟩
    · rw [as0]; unfold A_def; split
      · rename_i q; exact q.1
      · exact def1_0
    · rw [as1]; unfold A_def; split
      · rename_i q; exact q.2.1
      · exact def1_1
  · have ao : ∀ j, j < 15 → A_as f i x (ix c j) = f (ix c j) := fun j hj => by unfold A_as; rw [pk_un (ix_o e hj (by decide)), pk_un (ix_o e hj (by decide))]
    have dd : ∀ j, j < 15 → A_def f i 0 x 0 0 0 (ix c j) = f (ix c j) := fun j hj => by
      unfold A_def; split
      · rfl
      · exact def1_o e hj
    rw [ao 0 (by decide), ao 1 (by decide), ao 2 (by decide), ao 3 (by decide), ao 4 (by decide), dd 0 (by decide), dd 1 (by decide), dd 2 (by decide), dd 3 (by decide), dd 4 (by decide)]
    exact ⟨rfl, fun _ => rfl, fun _ => ⟨rfl, rfl, rfl⟩⟩
theorem told_as {f : Nat → Int32} {i c : Nat} {x : Int32} : toldF (A_def f i 0 x 0 0 0) c = toldF (A_as f i x) c := by
  unfold toldF
  rw [EV_same (ev_same as_def)]
set_option maxHeartbeats 4000000 in
set_option maxRecDepth 100000 in
theorem c_answerAfresh {Y : rcY} {la : Launch} {v : rcM} {f g p tx : Nat → Int32} {n ln i : Nat} (hn4 : n ≤ 4) (hC : CR v f p n tx ln) (hi : i < 10) (hR1 : Rep v 1 g) (hz : Zr v 1) (hw : WF g) : rcT shC 139 Y la 47 (yX5_answerAfresh, cX5_answerAfresh, 3, (some .int)) [.ref (Y.2.1 0), .int (nI i)] (v) (KX (toldF g i) f p n tx ln) := by
  refine rcT.of (by decide +kernel) (Nat.le_of_ble_eq_true rfl) (fun X F hn => ?_)
  refine j_aload_n F.1 dX5_answerAfresh_0 rfl ?_
  refine j_getr F (k := 1) inX5 rfl (by decide) fl_X5_16 ⟨by decide, rfl⟩ rfl dX5_answerAfresh_1 ?_
  refine j_callV F (c_dropAnswers (by decide) hR1) co_X3_dropAnswers ml_X5_210 im_X3_dropAnswers se_X3_dropAnswers in_X3 rc_X3_dropAnswers rfl (by decide) (by decide) (sh_st (k := 1) (by decide)) rfl rfl (Nat.le_of_ble_eq_true rfl) dX5_answerAfresh_4 (fun r u hr => ?_)
  obtain ⟨rfl, R2, kp⟩ := hr
  refine j_aload_n F.1 dX5_answerAfresh_7 rfl ?_
  refine j_getr F (k := 1) inX5 rfl (by decide) fl_X5_16 ⟨by decide, rfl⟩ rfl dX5_answerAfresh_8 ?_
  refine j_iload_n F.1 dX5_answerAfresh_11 rfl ?_
  refine j_callV F (c_lookAt (k := 1) (by decide) hi R2 (kp.zr hz) (FD_wf hw)) co_X3_lookAt ml_X5_107 im_X3_lookAt se_X3_lookAt in_X3 rc_X3_lookAt rfl (by decide) (by decide) (sh_st (k := 1) (by decide)) rfl rfl (Nat.le_of_ble_eq_true rfl) dX5_answerAfresh_12 (fun r u hr => ?_)
  unfold KLA at hr
  have fl := FD_look hw hi
  cases e : A_look 11 [] (FD g) i with
  | none =>
    rw [e] at hr fl
    obtain ⟨rfl, ho⟩ := hr
    refine j_tl ?_
    refine j_if_ne F.1 21 dX5_answerAfresh_15 (by decide) (fun h15 => False.elim (by revert h15; decide)) (fun _ => ?_)
    refine j_ldc F cn_X5_110 dX5_answerAfresh_18 ?_
    exact j_iret F dX5_answerAfresh_20 ((by refine ⟨?_, hC.out1 hn4 (kp.1.tr ho)⟩; unfold toldF; rw [fl]))
  | some g2 =>
    rw [e] at hr fl
    obtain ⟨rfl, R3, O3, S3⟩ := hr
    obtain ⟨m, S, v1, ev, fr, bb⟩ := fl
    refine j_tl ?_
    refine j_if_ne F.1 21 dX5_answerAfresh_15 (by decide) (fun _ => ?_) (fun h15 => False.elim (by revert h15; decide))
    refine j_aload_n F.1 dX5_answerAfresh_21 rfl ?_
    refine j_getr F (k := 1) inX5 rfl (by decide) fl_X5_16 ⟨by decide, rfl⟩ rfl dX5_answerAfresh_22 ?_
    refine j_getr F (k := 0) inX3 rfl (by decide) fl_X5_79 (sh_st (k := 1) (by decide)) rfl dX5_answerAfresh_25 ?_
    refine j_iload_n F.1 dX5_answerAfresh_28 rfl ?_
    refine j_aald3 F (sh_arr (k := 1) (by decide)) rfl hi (by decide) dX5_answerAfresh_29 ?_
    refine j_callVi F (c_told (k := 1) (by decide) hi) co_X0_told ml_X5_111 im_X0_told se_X0_told in_X0 rc_X0_told rfl (by decide) (by decide) (sh_cell (k := 1) (by decide) hi) rfl rfl (Nat.le_of_ble_eq_true rfl) dX5_answerAfresh_30 ?_
    refine j_top (R3.told hi fr) ?_
    refine j_istore_n F.1 dX5_answerAfresh_33 (by rw [hn]; decide) ?_
    refine j_iload_n F.1 dX5_answerAfresh_34 rfl ?_
    refine j_ldc F cn_X5_213 dX5_answerAfresh_35 ?_
    refine j_icmp_ne F.1 45 dX5_answerAfresh_37 (by decide) (fun h37 => ?_) (fun h37 => ?_)
    · refine j_iload_n F.1 dX5_answerAfresh_45 rfl ?_
      exact j_iret F dX5_answerAfresh_46 ((by refine ⟨?_, hC.out1 hn4 (kp.1.tr O3)⟩; unfold toldF; rw [ev]; dsimp only; first | rw [if_pos h37] | rw [if_neg h37]))
    · refine j_ldc F cn_X5_180 dX5_answerAfresh_40 ?_
      refine j_goto F.1 46 dX5_answerAfresh_42 (by decide) ?_
      exact j_iret F dX5_answerAfresh_46 ((by refine ⟨?_, hC.out1 hn4 (kp.1.tr O3)⟩; unfold toldF; rw [ev]; dsimp only; first | rw [if_pos h37] | rw [if_neg h37]))
theorem one_b {x : Int32} (h : x = 0 ∨ x = 1) : b2 (x = 1) = x := by
  rcases h with rfl | rfl <;> rfl
set_option maxHeartbeats 4000000 in
set_option maxRecDepth 100000 in
theorem c_isOneOf {Y : rcY} {la : Launch} {v : rcM} {f p tx : Nat → Int32} {n ln : Nat} (hn4 : n ≤ 4) (hC : CR v f p n tx ln) (hw : WF f) {i : Nat} {x : Int32} (hi : i < 10) : rcT shC 139 Y la 48 (yX5_isOneOf, cX5_isOneOf, 4, (some .boolean)) [.ref (Y.2.1 0), .int (nI i), .int x] (v) (KX (one f i x) f p n tx ln) := by
  refine rcT.of (by decide +kernel) (Nat.le_of_ble_eq_true rfl) (fun X F hn => ?_)
  refine j_aload_n F.1 dX5_isOneOf_0 rfl ?_
  refine j_getr F (k := 0) inX5 rfl (by decide) fl_X5_10 ⟨by decide, rfl⟩ rfl dX5_isOneOf_1 ?_
  refine j_getr F (k := 0) inX3 rfl (by decide) fl_X5_79 (sh_st (k := 0) (by decide)) rfl dX5_isOneOf_4 ?_
  refine j_iload_n F.1 dX5_isOneOf_7 rfl ?_
  refine j_aald3 F (sh_arr (k := 0) (by decide)) rfl hi (by decide) dX5_isOneOf_8 ?_
  refine j_astore_n F.1 dX5_isOneOf_9 (by rw [hn]; decide) ?_
  refine j_iload_n F.1 dX5_isOneOf_10 rfl ?_
  by_cases h11_0 : x = 0
  · refine j_tableIn F.1 40 dX5_isOneOf_11 (by rw [h11_0]; decide) (by rw [h11_0]; decide) (by rw [h11_0]; rfl) (by decide) ?_
    refine j_aload_n F.1 dX5_isOneOf_40 rfl ?_
    refine j_getr F (k := 0) inX0 rfl (by decide) fl_X5_83 (sh_cell (k := 0) (by decide) hi) rfl dX5_isOneOf_41 ?_
    refine j_geti F (k := 0) inX1 rfl (by decide) fl_X5_88 (sh_def (k := 0) (by decide) hi) rfl dX5_isOneOf_44 ?_
    refine j_iconst F.1 (-1) dX5_isOneOf_47 (by decide) ?_
    refine j_icmp_eq F.1 55 dX5_isOneOf_48 (by decide) (fun h48 => ?_) (fun h48 => ?_)
    · have hx : one f i x = 0 := by subst h11_0; unfold one; rw [if_pos rfl]; exact b2_f (by rw [(hC.1.kind hi).mp h48]; decide)
      refine j_iconst F.1 (0) dX5_isOneOf_55 (by decide) ?_
      exact j_zret F (by first | exact Or.inl rfl | exact Or.inr rfl | exact rcb_01 _) dX5_isOneOf_56 ((by refine ⟨?_, hC⟩; rw [hx]))
    · have hx : one f i x = 1 := by subst h11_0; unfold one; rw [if_pos rfl]; exact b2_t (hw.wd.pos hi (fun z => h48 ((hC.1.kind hi).mpr z)))
      refine j_iconst F.1 (1) dX5_isOneOf_51 (by decide) ?_
      refine j_goto F.1 56 dX5_isOneOf_52 (by decide) ?_
      exact j_zret F (by first | exact Or.inl rfl | exact Or.inr rfl | exact rcb_01 _) dX5_isOneOf_56 ((by refine ⟨?_, hC⟩; rw [hx]))
  by_cases h11_1 : x = 1
  · refine j_tableIn F.1 57 dX5_isOneOf_11 (by rw [h11_1]; decide) (by rw [h11_1]; decide) (by rw [h11_1]; rfl) (by decide) ?_
    refine j_aload_n F.1 dX5_isOneOf_57 rfl ?_
    refine j_getz F (k := 2) inX0 rfl (by decide) fl_X5_131 (sh_cell (k := 0) (by decide) hi) rfl dX5_isOneOf_58 ?_
    have hx : one f i x = rcb (v (cid 0 i) 2) := by subst h11_1; unfold one; rw [if_neg (by decide), if_pos rfl, hC.1.has hi]; exact one_b ((hw.1 i hi).2.2.2.1)
    exact j_zret F (by first | exact Or.inl rfl | exact Or.inr rfl | exact rcb_01 _) dX5_isOneOf_61 ((by refine ⟨?_, hC⟩; rw [hx]))
  by_cases h11_2 : x = 2
  · refine j_tableIn F.1 62 dX5_isOneOf_11 (by rw [h11_2]; decide) (by rw [h11_2]; decide) (by rw [h11_2]; rfl) (by decide) ?_
    refine j_aload_n F.1 dX5_isOneOf_62 rfl ?_
    refine j_getz F (k := 2) inX0 rfl (by decide) fl_X5_131 (sh_cell (k := 0) (by decide) hi) rfl dX5_isOneOf_63 ?_
    refine j_if_eq F.1 87 dX5_isOneOf_66 (by decide) (fun h66 => ?_) (fun h66 => ?_)
    · have hx : one f i x = 0 := by subst h11_2; unfold one; rw [if_neg (by decide), if_neg (by decide), if_pos rfl]; exact b2_f (fun z => absurd ((hC.1.has0 hi h66).symm.trans z.1) (by decide))
      refine j_iconst F.1 (0) dX5_isOneOf_87 (by decide) ?_
      exact j_zret F (by first | exact Or.inl rfl | exact Or.inr rfl | exact rcb_01 _) dX5_isOneOf_88 ((by refine ⟨?_, hC⟩; rw [hx]))
    · have h6 := hC.1.has1 hi h66
      have hs4 := ((hC.1.1 i hi).2.2.2 h6).2.2.1
      refine j_aload_n F.1 dX5_isOneOf_69 rfl ?_
      refine j_geti F (k := 4) inX0 rfl (by decide) fl_X5_150 (sh_cell (k := 0) (by decide) hi) rfl dX5_isOneOf_70 ?_
      refine j_aload_n F.1 dX5_isOneOf_73 rfl ?_
      refine j_getr F (k := 0) inX5 rfl (by decide) fl_X5_10 ⟨by decide, rfl⟩ rfl dX5_isOneOf_74 ?_
      refine j_geti F (k := 1) inX3 rfl (by decide) fl_X5_60 (sh_st (k := 0) (by decide)) rfl dX5_isOneOf_77 ?_
      refine j_icmp_ne F.1 87 dX5_isOneOf_80 (by decide) (fun h80 => ?_) (fun h80 => ?_)
      · have hx : one f i x = 0 := by subst h11_2; unfold one; rw [if_neg (by decide), if_neg (by decide), if_pos rfl]; exact b2_f (fun z => h80 (by rw [hs4, hC.1.2.1]; exact z.2))
        refine j_iconst F.1 (0) dX5_isOneOf_87 (by decide) ?_
        exact j_zret F (by first | exact Or.inl rfl | exact Or.inr rfl | exact rcb_01 _) dX5_isOneOf_88 ((by refine ⟨?_, hC⟩; rw [hx]))
      · have hx : one f i x = 1 := by subst h11_2; unfold one; rw [if_neg (by decide), if_neg (by decide), if_pos rfl]; exact b2_t ⟨h6, by rw [← hs4, ← hC.1.2.1]; exact h80⟩
        refine j_iconst F.1 (1) dX5_isOneOf_83 (by decide) ?_
        refine j_goto F.1 88 dX5_isOneOf_84 (by decide) ?_
        exact j_zret F (by first | exact Or.inl rfl | exact Or.inr rfl | exact rcb_01 _) dX5_isOneOf_88 ((by refine ⟨?_, hC⟩; rw [hx]))
  by_cases h11_3 : x = 3
  · refine j_tableIn F.1 89 dX5_isOneOf_11 (by rw [h11_3]; decide) (by rw [h11_3]; decide) (by rw [h11_3]; rfl) (by decide) ?_
    refine j_aload_n F.1 dX5_isOneOf_89 rfl ?_
    refine j_getr F (k := 1) inX5 rfl (by decide) fl_X5_16 ⟨by decide, rfl⟩ rfl dX5_isOneOf_90 ?_
    refine j_aload_n F.1 dX5_isOneOf_93 rfl ?_
    refine j_getr F (k := 0) inX5 rfl (by decide) fl_X5_10 ⟨by decide, rfl⟩ rfl dX5_isOneOf_94 ?_
    refine j_callV F (c_copy (k := 1) (k2 := 0) (by decide) (by decide) (by decide)) co_X3_copy ml_X5_104 im_X3_copy se_X3_copy in_X3 rc_X3_copy rfl (by decide) (by decide) (sh_st (k := 1) (by decide)) rfl rfl (Nat.le_of_ble_eq_true rfl) dX5_isOneOf_97 (fun r u hr => ?_)
    obtain ⟨rfl, cp⟩ := hr
    refine j_aload_n F.1 dX5_isOneOf_100 rfl ?_
    refine j_iload_n F.1 dX5_isOneOf_101 rfl ?_
    refine j_callV F (c_answerAfresh hn4 (hC.out1 hn4 cp.2.2) hi (cp.rep hC.1) cp.zr hw) co_X5_answerAfresh ml_X5_118 im_X5_answerAfresh se_X5_answerAfresh in_X5 rc_X5_answerAfresh rfl (by decide) (by decide) ⟨by decide, rfl⟩ rfl rfl (Nat.le_of_ble_eq_true rfl) dX5_isOneOf_102 (fun r u hr => ?_)
    obtain ⟨rfl, hC2⟩ := hr
    refine j_tl ?_
    refine j_ldc F cn_X5_110 dX5_isOneOf_105 ?_
    refine j_icmp_ne F.1 114 dX5_isOneOf_107 (by decide) (fun h107 => ?_) (fun h107 => ?_)
    · have hx : one f i x = 0 := by subst h11_3; exact (told_2 hw hi).2 h107
      refine j_iconst F.1 (0) dX5_isOneOf_114 (by decide) ?_
      exact j_zret F (by first | exact Or.inl rfl | exact Or.inr rfl | exact rcb_01 _) dX5_isOneOf_115 ((by refine ⟨?_, hC2⟩; rw [hx]))
    · have hx : one f i x = 1 := by subst h11_3; exact (told_2 hw hi).1 h107
      refine j_iconst F.1 (1) dX5_isOneOf_110 (by decide) ?_
      refine j_goto F.1 115 dX5_isOneOf_111 (by decide) ?_
      exact j_zret F (by first | exact Or.inl rfl | exact Or.inr rfl | exact rcb_01 _) dX5_isOneOf_115 ((by refine ⟨?_, hC2⟩; rw [hx]))
  refine j_tableOut F.1 116 dX5_isOneOf_11 (by have a0 : (x).toInt ≠ 0 := fun z => h11_0 (Int32.toInt_inj.mp (by rw [z]; rfl)); have a1 : (x).toInt ≠ 1 := fun z => h11_1 (Int32.toInt_inj.mp (by rw [z]; rfl)); have a2 : (x).toInt ≠ 2 := fun z => h11_2 (Int32.toInt_inj.mp (by rw [z]; rfl)); have a3 : (x).toInt ≠ 3 := fun z => h11_3 (Int32.toInt_inj.mp (by rw [z]; rfl)); omega) (by decide) ?_
  refine j_aload_n F.1 dX5_isOneOf_116 rfl ?_
  refine j_getr F (k := 1) inX5 rfl (by decide) fl_X5_16 ⟨by decide, rfl⟩ rfl dX5_isOneOf_117 ?_
  refine j_aload_n F.1 dX5_isOneOf_120 rfl ?_
  refine j_getr F (k := 0) inX5 rfl (by decide) fl_X5_10 ⟨by decide, rfl⟩ rfl dX5_isOneOf_121 ?_
  refine j_callV F (c_copy (k := 1) (k2 := 0) (by decide) (by decide) (by decide)) co_X3_copy ml_X5_104 im_X3_copy se_X3_copy in_X3 rc_X3_copy rfl (by decide) (by decide) (sh_st (k := 1) (by decide)) rfl rfl (Nat.le_of_ble_eq_true rfl) dX5_isOneOf_124 (fun r u hr => ?_)
  obtain ⟨rfl, cp⟩ := hr
  refine j_aload_n F.1 dX5_isOneOf_127 rfl ?_
  refine j_iload_n F.1 dX5_isOneOf_128 rfl ?_
  refine j_callV F (c_answerAfresh hn4 (hC.out1 hn4 cp.2.2) hi (cp.rep hC.1) cp.zr hw) co_X5_answerAfresh ml_X5_118 im_X5_answerAfresh se_X5_answerAfresh in_X5 rc_X5_answerAfresh rfl (by decide) (by decide) ⟨by decide, rfl⟩ rfl rfl (Nat.le_of_ble_eq_true rfl) dX5_isOneOf_129 (fun r u hr => ?_)
  obtain ⟨rfl, hC2⟩ := hr
  refine j_tl ?_
  refine j_ldc F cn_X5_180 dX5_isOneOf_132 ?_
  refine j_icmp_ne F.1 141 dX5_isOneOf_134 (by decide) (fun h134 => ?_) (fun h134 => ?_)
  · have hx : one f i x = 0 := by exact (told_3 hw hi h11_0 h11_1 h11_2 h11_3).2 h134
    refine j_iconst F.1 (0) dX5_isOneOf_141 (by decide) ?_
    exact j_zret F (by first | exact Or.inl rfl | exact Or.inr rfl | exact rcb_01 _) dX5_isOneOf_142 ((by refine ⟨?_, hC2⟩; rw [hx]))
  · have hx : one f i x = 1 := by exact (told_3 hw hi h11_0 h11_1 h11_2 h11_3).1 h134
    refine j_iconst F.1 (1) dX5_isOneOf_137 (by decide) ?_
    refine j_goto F.1 142 dX5_isOneOf_138 (by decide) ?_
    exact j_zret F (by first | exact Or.inl rfl | exact Or.inr rfl | exact rcb_01 _) dX5_isOneOf_142 ((by refine ⟨?_, hC2⟩; rw [hx]))
set_option maxHeartbeats 4000000 in
set_option maxRecDepth 100000 in
theorem c_fresh {Y : rcY} {la : Launch} {v : rcM} {f p tx : Nat → Int32} {n ln : Nat} (hn4 : n ≤ 4) (hC : CR v f p n tx ln) (hw : WF f) {c : Int32} : rcT shC 139 Y la 48 (yX5_fresh, cX5_fresh, 2, (some .int)) [.ref (Y.2.1 0), .int c] (v) (KX (S_fresh f c) f p n tx ln) := by
  refine rcT.of (by decide +kernel) (Nat.le_of_ble_eq_true rfl) (fun X F hn => ?_)
  refine j_iload_n F.1 dX5_fresh_0 rfl ?_
  refine j_callSi F (c_isCell) co_X5_isCell ml_X5_40 st_X5_isCell in_X5 rc_X5_isCell rfl (by decide) (by decide) rfl (Nat.le_of_ble_eq_true rfl) dX5_fresh_1 ?_
  refine j_if_ne F.1 10 dX5_fresh_4 (by decide) (fun h4 => ?_) (fun h4 => ?_)
  · rw [b2_0, Classical.not_not] at h4
    obtain ⟨i, hi, rfl⟩ := cell_of h4
    refine j_aload_n F.1 dX5_fresh_10 rfl ?_
    refine j_getr F (k := 1) inX5 rfl (by decide) fl_X5_16 ⟨by decide, rfl⟩ rfl dX5_fresh_11 ?_
    refine j_aload_n F.1 dX5_fresh_14 rfl ?_
    refine j_getr F (k := 0) inX5 rfl (by decide) fl_X5_10 ⟨by decide, rfl⟩ rfl dX5_fresh_15 ?_
    refine j_callV F (c_copy (k := 1) (k2 := 0) (by decide) (by decide) (by decide)) co_X3_copy ml_X5_104 im_X3_copy se_X3_copy in_X3 rc_X3_copy rfl (by decide) (by decide) (sh_st (k := 1) (by decide)) rfl rfl (Nat.le_of_ble_eq_true rfl) dX5_fresh_18 (fun r u hr => ?_)
    obtain ⟨rfl, cp⟩ := hr
    refine j_aload_n F.1 dX5_fresh_21 rfl ?_
    refine j_iload_n F.1 dX5_fresh_22 rfl ?_
    refine j_callV F (c_answerAfresh hn4 (hC.out1 hn4 cp.2.2) hi (cp.rep hC.1) cp.zr hw) co_X5_answerAfresh ml_X5_118 im_X5_answerAfresh se_X5_answerAfresh in_X5 rc_X5_answerAfresh rfl (by decide) (by decide) ⟨by decide, rfl⟩ rfl rfl (Nat.le_of_ble_eq_true rfl) dX5_fresh_23 (fun r u hr => ?_)
    obtain ⟨rfl, hC2⟩ := hr
    refine j_tl ?_
    exact j_iret F dX5_fresh_26 ((by unfold S_fresh; rw [if_pos (nI_in9 hi), cN_nI hi]; exact ⟨rfl, hC2⟩))
  · rw [b2_0] at h4
    refine j_ldc F cn_X5_47 dX5_fresh_7 ?_
    exact j_iret F dX5_fresh_9 ((by unfold S_fresh; rw [if_neg h4]; exact ⟨rfl, hC⟩))
theorem val_in {x : Int32} (h : -99999 ≤ x ∧ x ≤ 99999) : -99999 ≤ x.toInt ∧ x.toInt ≤ 99999 := by
  have a := Int32.le_iff_toInt_le.mp h.1
  have b := Int32.le_iff_toInt_le.mp h.2
  have e1 : ((-99999 : Int32)).toInt = -99999 := by decide
  have e2 : ((99999 : Int32)).toInt = 99999 := by decide
  omega
