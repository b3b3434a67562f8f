/-! The class: looks, the rest. -/
def CH (n : Nat) (O : List Nat) (f : Nat → Int32) (c : Nat) : Option ((Nat → Int32) × Int32) := match A_look n (c :: O) f (cN (f (ix c 11))) with
  | none => none
  | some f1 => if f1 (ix c 9) < A_chg f1 (cN (f (ix c 11))) ∨ f1 (ix c 10) = 1 then some (f1, A_chg f1 (cN (f (ix c 11)))) else match A_look n (c :: O) f1 (cN (f1 (ix c 12))) with
    | none => none
    | some f2 => some (f2, A_chg f2 (cN (f1 (ix c 12))))
theorem A_chk_CH {n : Nat} {O : List Nat} {f : Nat → Int32} {c : Nat} : A_chk n O f c = match CH n O f c with
    | none => none
    | some q => if q.1 (ix c 9) < q.2 then A_work n O q.1 c else some (A_keep q.1 c) := by
  unfold A_chk CH
  cases e1 : A_look n (c :: O) f (cN (f (ix c 11))) with
  | none => rfl
  | some f1 =>
    dsimp only
    by_cases h : f1 (ix c 9) < A_chg f1 (cN (f (ix c 11)))
    · rw [if_pos h, if_pos (Or.inl h)]
      dsimp only
      rw [if_pos h]
    · rw [if_neg h]
      by_cases hm : f1 (ix c 10) = 1
      · rw [if_pos hm, if_pos (Or.inr hm)]
        dsimp only
        rw [if_neg h]
      · rw [if_neg hm, if_neg (fun z => z.elim h hm)]
        cases e2 : A_look n (c :: O) f1 (cN (f1 (ix c 12))) with
        | none => rfl
        | some f2 => rfl
theorem CH_good {n : Nat} {O : List Nat} {f g : Nat → Int32} {c : Nat} {ch : Int32} (hc : c < 10) (h0 : ¬ f (ix c 0) = 0) (h6 : f (ix c 6) = 1) (hP : Pre (c :: O) f) (h : CH n O f c = some (g, ch)) : Good f g (c :: O) ∧ 0 ≤ ch.toInt := by
  unfold CH at h
  have hw := (hP.1.1 c hc).2.2.2.2 h6
  have hx := cN_ok (show okC (f (ix c 11)) by rw [hw.1]; exact ((hP.1.1 c hc).2.2.1 h0).2.1)
  cases e1 : A_look n (c :: O) f (cN (f (ix c 11))) with
  | none => rw [e1] at h; cases h
  | some f1 =>
    rw [e1] at h
    dsimp only at h
    obtain ⟨g1, fr1⟩ := A_look_good n _ _ _ _ hx.1 hP e1
    have P1 := hP.next g1
    by_cases hq : f1 (ix c 9) < A_chg f1 (cN (f (ix c 11))) ∨ f1 (ix c 10) = 1
    · rw [if_pos hq] at h
      cases h
      exact ⟨g1, chg_ok P1.1 hx.1 fr1⟩
    · rw [if_neg hq] at h
      have s1 : ∀ j, j < 15 → f1 (ix c j) = f (ix c j) := g1.2.2.2.2.1 c List.mem_cons_self
      have hw1 := (P1.1.1 c hc).2.2.2.2 (show f1 (ix c 6) = 1 by rw [s1 6 (by decide)]; exact h6)
      have hy := cN_ok (hw1.2.1.elim (fun z => absurd (Or.inr z) hq) (fun z => z.2))
      cases e2 : A_look n (c :: O) f1 (cN (f1 (ix c 12))) with
      | none => rw [e2] at h; cases h
      | some f2 =>
        rw [e2] at h
        cases h
        obtain ⟨g2, fr2⟩ := A_look_good n _ _ _ _ hy.1 P1 e2
        exact ⟨g1.tr g2, chg_ok (P1.next g2).1 hy.1 fr2⟩
def KC (v : rcM) (k : Nat) (O : List Nat) (c : Nat) (R : Option ((Nat → Int32) × Int32)) : Option Value → rcM → Prop := fun r u => match R with
  | none => r = some (.int (-1)) ∧ Out v u k
  | some q => r = some (.int q.2) ∧ Rep u k q.1 ∧ Bg u k (c :: O) ∧ Out v u k
theorem KC_none {v u : rcM} {k c : Nat} {O : List Nat} {R : Option ((Nat → Int32) × Int32)} (e : R = none) (ho : Out v u k) : KC v k O c R (some (.int (-1))) u := by
  rw [e]; exact ⟨rfl, ho⟩
theorem KC_some {v u : rcM} {k c : Nat} {O : List Nat} {R : Option ((Nat → Int32) × Int32)} {g : Nat → Int32} {ch : Int32} (e : R = some (g, ch)) (hr : Rep u k g) (hb : Bg u k (c :: O)) (ho : Out v u k) : KC v k O c R (some (.int ch)) u := by
  rw [e]; exact ⟨rfl, hr, hb, ho⟩
set_option maxHeartbeats 4000000 in
set_option maxRecDepth 100000 in
theorem c_lookForChange {Y : rcY} {la : Launch} {v : rcM} {k n c : Nat} {O : List Nat} {f : Nat → Int32} (hk : k < 6) (ih : LKC Y k n) (hc : c < 10) (hR : Rep v k f) (hB : Bg v k (c :: O)) (hP : Pre (c :: O) f) (hO : OkO (c :: O)) (hn11 : (c :: O).length + n = 11) (h0 : ¬ f (ix c 0) = 0) (h6 : f (ix c 6) = 1) : rcT shC 139 Y la (4 * n + 2) (yX3_lookForChange, cX3_lookForChange, 4, (some .int)) [.ref (Y.2.1 (sid k)), .ref (Y.2.1 (cid k c)), .int (nI (O.length + 1))] (v) (KC v k O c (CH n O f c)) := by
  refine rcT.of (by decide +kernel) (Nat.le_of_ble_eq_true rfl) (fun X F hn => ?_)
  have hx := cN_ok ((hP.1.1 c hc).2.2.1 h0).2.1
  have e11 : f (ix c 11) = f (ix c 2) := ((hP.1.1 c hc).2.2.2.2 h6).1
  refine j_aload_n F.1 dX3_lookForChange_0 rfl ?_
  refine j_aload_n F.1 dX3_lookForChange_1 rfl ?_
  refine j_getr F (k := 0) inX0 rfl (by decide) fl_X3_50 (sh_cell hk hc) rfl dX3_lookForChange_2 ?_
  refine j_geti F (k := 2) inX1 rfl (by decide) fl_X3_108 (sh_def hk hc) rfl dX3_lookForChange_5 ?_
  refine j_top (y := nI (cN (f (ix c 2)))) (by rw [(hR.1 c hc).1.2.2.1]; exact hx.2) ?_
  refine j_iload_n F.1 dX3_lookForChange_8 rfl ?_
  refine j_callV F (ih _ _ _ _ _ hx.1 hR hB hP hO hn11) co_X3_look ml_X3_84 im_X3_look se_X3_look in_X3 rc_X3_look rfl (by omega) (by decide) (sh_st hk) rfl rfl (Nat.le_of_ble_eq_true rfl) dX3_lookForChange_9 (fun r u hr => ?_)
  unfold KL2 at hr
  cases e1 : A_look n (c :: O) f (cN (f (ix c 2))) with
  | none =>
    rw [e1] at hr
    obtain ⟨rfl, hoe1⟩ := hr
    refine j_tl ?_
    refine j_istore_n F.1 dX3_lookForChange_12 (by rw [hn]; decide) ?_
    refine j_iload_n F.1 dX3_lookForChange_13 rfl ?_
    refine j_iconst F.1 (-1) dX3_lookForChange_14 (by decide) ?_
    refine j_icmp_eq F.1 34 dX3_lookForChange_15 (by decide) (fun _ => ?_) (fun h15 => False.elim (by revert h15; decide))
    refine j_iload_n F.1 dX3_lookForChange_34 rfl ?_
    exact j_iret F dX3_lookForChange_35 ((KC_none (by unfold CH; rw [e11, e1]) hoe1))
  | some f1 =>
    rw [e1] at hr
    obtain ⟨rfl, Re1, Be1, Oe1, Se1⟩ := hr
    refine j_tl ?_
    obtain ⟨g1, fr1⟩ := A_look_good n _ _ _ _ hx.1 hP e1
    have P1 := hP.next g1
    have s1 : ∀ j, j < 15 → f1 (ix c j) = f (ix c j) := g1.2.2.2.2.1 c List.mem_cons_self
    have h61 : f1 (ix c 6) = 1 := by rw [s1 6 (by decide)]; exact h6
    have hch := chg_ok P1.1 hx.1 fr1
    have hrc := (Re1.1 c hc).2.2.2 h61
    have hw1 := (P1.1.1 c hc).2.2.2.2 h61
    refine j_istore_n F.1 dX3_lookForChange_12 (by rw [hn]; decide) ?_
    refine j_iload_n F.1 dX3_lookForChange_13 rfl ?_
    refine j_iconst F.1 (-1) dX3_lookForChange_14 (by decide) ?_
    refine j_icmp_eq F.1 34 dX3_lookForChange_15 (by decide) (fun h15 => ?_) (fun h15 => ?_)
    · exact absurd h15 (chg_n1 hch)
    · refine j_iload_n F.1 dX3_lookForChange_18 rfl ?_
      refine j_aload_n F.1 dX3_lookForChange_19 rfl ?_
      refine j_geti F (k := 4) inX0 rfl (by decide) fl_X3_94 (sh_cell hk hc) rfl dX3_lookForChange_20 ?_
      refine j_top hrc.2.2.1 ?_
      refine j_icmp_gt F.1 34 dX3_lookForChange_23 (by decide) (fun h23 => ?_) (fun h23 => ?_)
      · have h23 : f1 (ix c 9) < A_chg f1 (cN (f (ix c 2))) := h23
        refine j_iload_n F.1 dX3_lookForChange_34 rfl ?_
        exact j_iret F dX3_lookForChange_35 ((KC_some (by unfold CH; rw [e11, e1]; dsimp only; rw [if_pos (Or.inl h23)]) Re1 Be1 Oe1))
      · have h23 : ¬ f1 (ix c 9) < A_chg f1 (cN (f (ix c 2))) := Int32.not_lt.mpr (by first | exact h23 | exact Int32.not_lt.mp h23)
        refine j_aload_n F.1 dX3_lookForChange_26 rfl ?_
        refine j_geti F (k := 5) inX0 rfl (by decide) fl_X3_111 (sh_cell hk hc) rfl dX3_lookForChange_27 ?_
        by_cases hm : f1 (ix c 10) = 1
        · refine j_top (y := -1) (by rw [hrc.2.2.2.2, if_pos hm]) ?_
          refine j_iconst F.1 (-1) dX3_lookForChange_30 (by decide) ?_
          refine j_icmp_ne F.1 36 dX3_lookForChange_31 (by decide) (fun h31 => False.elim (by revert h31; decide)) (fun _ => ?_)
          refine j_iload_n F.1 dX3_lookForChange_34 rfl ?_
          exact j_iret F dX3_lookForChange_35 ((KC_some (by unfold CH; rw [e11, e1]; dsimp only; rw [if_pos (by first | exact Or.inr hm | exact Or.inl h23)]) Re1 Be1 Oe1))
        · have hy := cN_ok (hw1.2.1.elim (fun z => absurd z hm) (fun z => z.2))
          refine j_top (y := nI (cN (f1 (ix c 12)))) (by rw [hrc.2.2.2.2, if_neg hm]; exact hy.2) ?_
          refine j_iconst F.1 (-1) dX3_lookForChange_30 (by decide) ?_
          refine j_icmp_ne F.1 36 dX3_lookForChange_31 (by decide) (fun h31 => ?_) (fun h31 => ?_)
          · refine j_aload_n F.1 dX3_lookForChange_36 rfl ?_
            refine j_aload_n F.1 dX3_lookForChange_37 rfl ?_
            refine j_geti F (k := 5) inX0 rfl (by decide) fl_X3_111 (sh_cell hk hc) rfl dX3_lookForChange_38 ?_
            refine j_top (y := nI (cN (f1 (ix c 12)))) (by rw [hrc.2.2.2.2, if_neg hm]; exact hy.2) ?_
            refine j_iload_n F.1 dX3_lookForChange_41 rfl ?_
            refine j_callV F (ih _ _ _ _ _ hy.1 Re1 Be1 P1 hO hn11) co_X3_look ml_X3_84 im_X3_look se_X3_look in_X3 rc_X3_look rfl (by omega) (by decide) (sh_st hk) rfl rfl (Nat.le_of_ble_eq_true rfl) dX3_lookForChange_42 (fun r u hr => ?_)
            unfold KL2 at hr
            cases e2 : A_look n (c :: O) f1 (cN (f1 (ix c 12))) with
            | none =>
              rw [e2] at hr
              obtain ⟨rfl, hoe2⟩ := hr
              refine j_tl ?_
              exact j_iret F dX3_lookForChange_45 ((KC_none (by unfold CH; rw [e11, e1]; dsimp only; rw [if_neg (fun z => z.elim h23 hm), e2]) (Oe1.tr hoe2)))
            | some f2 =>
              rw [e2] at hr
              obtain ⟨rfl, Re2, Be2, Oe2, Se2⟩ := hr
              refine j_tl ?_
              exact j_iret F dX3_lookForChange_45 ((KC_some (by unfold CH; rw [e11, e1]; dsimp only; rw [if_neg (fun z => z.elim h23 hm), e2]) Re2 Be2 (Oe1.tr Oe2)))
          · exact absurd h31 (fun z => nI_pos (n := (cN (f1 (ix c 12)))) (by have := hy.1; omega) (by rw [z]; decide))
theorem KW_int {v u : rcM} {k c : Nat} {O : List Nat} {R : Option (Nat → Int32)} {B : Prop} {S : Int32} {r : Option Value} (h : KW v k O c R B S r u) : ∃ z : Int32, r = some (.int z) ∧ (z = 0 ∨ z = 1) := by
  unfold KW at h
  cases R with
  | none => exact ⟨0, h.1, Or.inl rfl⟩
  | some g => exact ⟨1, h.1, Or.inr rfl⟩
theorem KW_of {v w u : rcM} {k c : Nat} {O : List Nat} {R R' : Option (Nat → Int32)} {B B' : Prop} {S S' : Int32} {r : Option Value} (h : KW w k O c R B S r u) (e : R' = R) (o : Out v w k) (hB : ¬ B') : KW v k O c R' B' S' r u := by
  subst e
  unfold KW at *
  cases R' with
  | none => exact ⟨h.1, o.tr h.2⟩
  | some g => exact ⟨h.1, h.2.1, h.2.2.1, o.tr h.2.2.2.1, fun z => absurd z hB⟩
theorem KW_if {v u : rcM} {k c : Nat} {O : List Nat} {R R' : Option (Nat → Int32)} {B : Prop} {S : Int32} {r : Option Value} (h : KW v k O c R B S r u) (e : R' = R) : KW v k O c R' B S r u := by
  rw [e]; exact h
theorem bu_keep {v w : rcM} {k c : Nat} {O : List Nat} {g : Nat → Int32} (h : Rep w k g) (hc : c < 10) (hb : Bg w k (c :: O)) (ho : Out v w k) : KW v k O c (some (A_keep g c)) False 0 (some (.int 1)) (keepM w k c) := by
  have q := keepM_rep h hc
  exact ⟨rfl, ⟨_, K0_keep.symm, q.1⟩, q.2.bg hb, ho.tr q.2.1, fun z => z.elim⟩
set_option maxHeartbeats 4000000 in
set_option maxRecDepth 100000 in
theorem c_bringUp {Y : rcY} {la : Launch} {v : rcM} {k n c : Nat} {O : List Nat} {f : Nat → Int32} (hk : k < 6) (ih : LKC Y k n) (hc : c < 10) (hR : Rep v k f) (hB : Bg v k (c :: O)) (hP : Pre (c :: O) f) (hO : OkO (c :: O)) (hn11 : (c :: O).length + n = 11) (h0 : ¬ f (ix c 0) = 0) (hst : ¬ (f (ix c 6) = 1 ∧ f (ix c 9) = f 0)) : rcT shC 139 Y la (4 * n + 3) (yX3_bringUpToDate, cX3_bringUpToDate, 4, (some .boolean)) [.ref (Y.2.1 (sid k)), .ref (Y.2.1 (cid k c)), .int (nI (O.length + 1))] (v) (KW v k O c (if f (ix c 6) = 1 then A_chk n O f c else A_work n O f c) (AF f) (W_bits n O f c)) := by
  refine rcT.of (by decide +kernel) (Nat.le_of_ble_eq_true rfl) (fun X F hn => ?_)
  refine j_aload_n F.1 dX3_bringUpToDate_0 rfl ?_
  refine j_getz F (k := 2) inX0 rfl (by decide) fl_X3_66 (sh_cell hk hc) rfl dX3_bringUpToDate_1 ?_
  refine j_if_ne F.1 14 dX3_bringUpToDate_4 (by decide) (fun h4 => ?_) (fun h4 => ?_)
  · have h6 : f (ix c 6) = 1 := hR.has1 hc h4
    have hnA : ¬ AF f := fun z => hst ⟨h6, z c hc h6⟩
    refine j_aload_n F.1 dX3_bringUpToDate_14 rfl ?_
    refine j_aload_n F.1 dX3_bringUpToDate_15 rfl ?_
    refine j_iload_n F.1 dX3_bringUpToDate_16 rfl ?_
    refine j_callV F (c_lookForChange hk ih hc hR hB hP hO hn11 h0 h6) co_X3_lookForChange ml_X3_104 im_X3_lookForChange se_X3_lookForChange in_X3 rc_X3_lookForChange rfl (by omega) (by decide) (sh_st hk) rfl rfl (Nat.le_of_ble_eq_true rfl) dX3_bringUpToDate_17 (fun r u hr => ?_)
    unfold KC at hr
    cases ec : CH n O f c with
    | none =>
      rw [ec] at hr
      obtain ⟨rfl, ho⟩ := hr
      refine j_tl ?_
      refine j_istore_n F.1 dX3_bringUpToDate_20 (by rw [hn]; decide) ?_
      refine j_iload_n F.1 dX3_bringUpToDate_21 rfl ?_
      refine j_iconst F.1 (-1) dX3_bringUpToDate_22 (by decide) ?_
      refine j_icmp_ne F.1 28 dX3_bringUpToDate_23 (by decide) (fun h23 => False.elim (by revert h23; decide)) (fun _ => ?_)
      refine j_iconst F.1 (0) dX3_bringUpToDate_26 (by decide) ?_
      exact j_zret F (by first | exact Or.inl rfl | exact Or.inr rfl | exact b2_01 _) dX3_bringUpToDate_27 ((KW_of (S := 0) (B := True) (R := none) (show KW v k O c none True 0 (some (.int 0)) _ from ⟨rfl, ho⟩) (by rw [if_pos h6, A_chk_CH, ec]) Out.rf hnA))
    | some gq =>
      rw [ec] at hr
      obtain ⟨rfl, Rc, Bc, Oc⟩ := hr
      refine j_tl ?_
      have gg := CH_good hc h0 h6 hP ec
      have hch := gg.2
      have Pc := hP.next gg.1
      have sc : ∀ j, j < 15 → gq.1 (ix c j) = f (ix c j) := gg.1.2.2.2.2.1 c List.mem_cons_self
      have h0c : ¬ gq.1 (ix c 0) = 0 := by rw [sc 0 (by decide)]; exact h0
      have hrc := (Rc.1 c hc).2.2.2 (by rw [sc 6 (by decide)]; exact h6)
      refine j_istore_n F.1 dX3_bringUpToDate_20 (by rw [hn]; decide) ?_
      refine j_iload_n F.1 dX3_bringUpToDate_21 rfl ?_
      refine j_iconst F.1 (-1) dX3_bringUpToDate_22 (by decide) ?_
      refine j_icmp_ne F.1 28 dX3_bringUpToDate_23 (by decide) (fun h23 => ?_) (fun h23 => ?_)
      · refine j_iload_n F.1 dX3_bringUpToDate_28 rfl ?_
        refine j_aload_n F.1 dX3_bringUpToDate_29 rfl ?_
        refine j_geti F (k := 4) inX0 rfl (by decide) fl_X3_94 (sh_cell hk hc) rfl dX3_bringUpToDate_30 ?_
        refine j_top (y := gq.1 (ix c 9)) hrc.2.2.1 ?_
        refine j_icmp_le F.1 43 dX3_bringUpToDate_33 (by decide) (fun h33 => ?_) (fun h33 => ?_)
        · have hlt : ¬ gq.1 (ix c 9) < gq.2 := Int32.not_lt.mpr h33
          refine j_aload_n F.1 dX3_bringUpToDate_43 rfl ?_
          refine j_dup F.1 dX3_bringUpToDate_44 rfl ?_
          refine j_geti F (k := 4) inX3 rfl (by decide) fl_X3_32 (sh_st hk) rfl dX3_bringUpToDate_45 ?_
          refine j_iconst F.1 (1) dX3_bringUpToDate_48 (by decide) ?_
          refine j_iadd F.1 dX3_bringUpToDate_49 ?_
          refine j_puti F (k := 4) inX3 tyX3_ok nmX3 rfl (by decide) fl_X3_32 rfl rfl (sh_st hk) rfl dX3_bringUpToDate_50 ?_
          refine j_aload_n F.1 dX3_bringUpToDate_53 rfl ?_
          refine j_aload_n F.1 dX3_bringUpToDate_54 rfl ?_
          refine j_geti F (k := 1) inX3 rfl (by decide) fl_X3_26 (sh_st hk) rfl dX3_bringUpToDate_55 ?_
          refine j_top (y := u (sid k) 1) (by rw [rcu_k (by decide)]) ?_
          refine j_puti F (k := 4) inX0 tyX0_ok nmX0 rfl (by decide) fl_X3_94 rfl rfl (sh_cell hk hc) rfl dX3_bringUpToDate_58 ?_
          refine j_iconst F.1 (1) dX3_bringUpToDate_61 (by decide) ?_
          exact j_zret F (by first | exact hz | exact Or.inr rfl) dX3_bringUpToDate_62 ((KW_of (bu_keep Rc hc Bc Oc) (by rw [if_pos h6, A_chk_CH, ec]; dsimp only; rw [if_neg hlt]) Out.rf hnA))
        · have hlt : gq.1 (ix c 9) < gq.2 := Int32.not_le.mp h33
          refine j_aload_n F.1 dX3_bringUpToDate_36 rfl ?_
          refine j_aload_n F.1 dX3_bringUpToDate_37 rfl ?_
          refine j_iload_n F.1 dX3_bringUpToDate_38 rfl ?_
          refine j_callV F (c_workOut hk ih hc Rc Bc Pc hO hn11 h0c) co_X3_workOut ml_X3_101 im_X3_workOut se_X3_workOut in_X3 rc_X3_workOut rfl (by omega) (by decide) (sh_st hk) rfl rfl (Nat.le_of_ble_eq_true rfl) dX3_bringUpToDate_39 (fun r u hr => ?_)
          obtain ⟨z, rfl, hz⟩ := KW_int hr
          refine j_tl ?_
          exact j_zret F (by first | exact hz | exact Or.inr rfl) dX3_bringUpToDate_42 ((KW_of hr (by rw [if_pos h6, A_chk_CH, ec]; dsimp only; rw [if_pos hlt]) Oc hnA))
      · exact absurd h23 (chg_n1 hch)
  · have h6 : ¬ f (ix c 6) = 1 := fun z => by rw [hR.has0 hc (by first | exact h4 | exact Classical.not_not.mp h4)] at z; exact absurd z (by decide)
    refine j_aload_n F.1 dX3_bringUpToDate_7 rfl ?_
    refine j_aload_n F.1 dX3_bringUpToDate_8 rfl ?_
    refine j_iload_n F.1 dX3_bringUpToDate_9 rfl ?_
    refine j_callV F (c_workOut hk ih hc hR hB hP hO hn11 h0) co_X3_workOut ml_X3_101 im_X3_workOut se_X3_workOut in_X3 rc_X3_workOut rfl (by omega) (by decide) (sh_st hk) rfl rfl (Nat.le_of_ble_eq_true rfl) dX3_bringUpToDate_10 (fun r u hr => ?_)
    obtain ⟨z, rfl, hz⟩ := KW_int hr
    refine j_tl ?_
    exact j_zret F hz dX3_bringUpToDate_13 ((KW_if hr (by rw [if_neg h6])))
