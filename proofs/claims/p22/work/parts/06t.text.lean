/-! The class: formulas and definitions as texts. -/
theorem kp_f {v : rcM} {tx : Nat → Int32} {ln p q : Nat} {R : Nat × Option D5} {k b c d e : Int32} (hT : TX v tx ln p) (hR : R = (q, some (k, b, c, d, e))) : KP v tx ln R (some (.int 1)) (setD (atM v q) 5 (k - 1) b c d e) :=
  kp_1 hT (by rw [hR, Int32.sub_add_cancel])
theorem kp_v {v : rcM} {tx : Nat → Int32} {ln p : Nat} {R : Nat × Option D5} (hT : TX v tx ln p) (hR : R = (p, none)) : KP v tx ln R (some (.int 0)) v := by
  rw [hR]
  exact ⟨FX.rf, rfl, hT, rfl⟩
theorem LTn {c : Int32} (h : ¬ letB c = true) : letB c = false := by cases e : letB c with | true => exact absurd e h | false => rfl
theorem PB_le {tx : Nat → Int32} {ln p : Nat} : (PB tx ln p).1 ≤ p + 10 := by
  have h1 := (dg_ge (tx := tx) (ln := ln) 5 (p + 1) 0).2
  have h2 := (dg_ge (tx := tx) (ln := ln) 5 p 0).2
  unfold PB
  split
  · unfold PF
    split
    · show p + 1 ≤ _; omega
    · split
      · show p + 1 + 1 ≤ _; omega
      · split
        · split
          · split
            · show p + 1 + 3 ≤ _; omega
            · show p + 1 + 4 ≤ _; omega
          · show p + 1 + 2 ≤ _; omega
        · show p + 1 + 2 ≤ _; omega
  · unfold PN
    split
    · split
      · show (dg tx ln 5 (p + 1) 0).1 ≤ _; omega
      · show (dg tx ln 5 (p + 1) 0).1 ≤ _; omega
    · split
      · show (dg tx ln 5 p 0).1 ≤ _; omega
      · show (dg tx ln 5 p 0).1 ≤ _; omega
set_option maxHeartbeats 4000000 in
set_option maxRecDepth 100000 in
theorem c_readFormula {Y : rcY} {la : Launch} {v : rcM} {tx : Nat → Int32} {ln p : Nat} {x : Int32} (hT : TX v tx ln p) (hln : ln ≤ 60) (hp : p ≤ 80) : rcT shC 139 Y la 3 (yX4_readFormula, cX4_readFormula, 5, (some .boolean)) [.ref (Y.2.1 3), .int (x - 97)] (v) (KP v tx ln (PF tx ln p x)) := by
  refine rcT.of (by decide +kernel) (Nat.le_of_ble_eq_true rfl) (fun X F hn => ?_)
  refine j_aload_n F.1 dX4_readFormula_0 rfl ?_
  refine j_callVi F (c_readOperator hT hln (by omega)) co_X4_readOperator ml_X4_57 im_X4_readOperator se_X4_readOperator in_X4 rc_X4_readOperator rfl (by decide) (by decide) ⟨by decide, rfl⟩ rfl rfl (Nat.le_of_ble_eq_true rfl) dX4_readFormula_1 ?_
  by_cases hk : kf (chr tx ln p) = 0
  · rw [atB_f (decide_eq_false (fun z => z hk))]
    refine j_top (y := -1) (kf_m1.mpr hk) ?_
    refine j_istore_n F.1 dX4_readFormula_4 (by rw [hn]; decide) ?_
    refine j_iload_n F.1 dX4_readFormula_5 rfl ?_
    refine j_iconst F.1 (-1) dX4_readFormula_6 (by decide) ?_
    refine j_icmp_ne F.1 12 dX4_readFormula_7 (by decide) (fun h7 => False.elim (by revert h7; decide)) (fun _ => ?_)
    refine j_iconst F.1 (0) dX4_readFormula_10 (by decide) ?_
    exact j_zret F (by first | exact Or.inl rfl | exact Or.inr rfl | exact b2_01 _) dX4_readFormula_11 ((kp_v hT (by unfold PF; rw [if_pos hk])))
  · rw [atB_t (decide_eq_true hk)]
    refine j_istore_n F.1 dX4_readFormula_4 (by rw [hn]; decide) ?_
    refine j_iload_n F.1 dX4_readFormula_5 rfl ?_
    refine j_iconst F.1 (-1) dX4_readFormula_6 (by decide) ?_
    refine j_icmp_ne F.1 12 dX4_readFormula_7 (by decide) (fun h7 => ?_) (fun h7 => ?_)
    · refine j_aload_n F.1 dX4_readFormula_12 rfl ?_
      refine j_callVi F (c_readLetter (hT.at (q := p + 1)) hln (by omega)) co_X4_readLetter ml_X4_39 im_X4_readLetter se_X4_readLetter in_X4 rc_X4_readLetter rfl (by decide) (by decide) ⟨by decide, rfl⟩ rfl rfl (Nat.le_of_ble_eq_true rfl) dX4_readFormula_13 ?_
      by_cases h1y : letB (chr tx ln (p + 1)) = true
      · have h1 : letB (chr tx ln (p + 1)) = true := h1y
        rw [atB_t h1, at_at]
        refine j_top (LT_t h1) ?_
        refine j_istore_n F.1 dX4_readFormula_16 (by rw [hn]; decide) ?_
        refine j_iload_n F.1 dX4_readFormula_17 rfl ?_
        refine j_iconst F.1 (-1) dX4_readFormula_18 (by decide) ?_
        refine j_icmp_ne F.1 24 dX4_readFormula_19 (by decide) (fun h19 => ?_) (fun h19 => ?_)
        · refine j_iconst F.1 (0) dX4_readFormula_24 (by decide) ?_
          refine j_istore F.1 dX4_readFormula_25 (by rw [hn]; decide) ?_
          refine j_iload_n F.1 dX4_readFormula_27 rfl ?_
          refine j_iconst F.1 (4) dX4_readFormula_28 (by decide) ?_
          refine j_icmp_ne F.1 51 dX4_readFormula_29 (by decide) (fun h29 => ?_) (fun h29 => ?_)
          · have hk5 : ¬ kf (chr tx ln p) = 5 := fun z => h29 (by rw [z]; rfl)
            refine j_iload F.1 dX4_readFormula_51 rfl ?_
            refine j_iconst F.1 (-1) dX4_readFormula_53 (by decide) ?_
            refine j_icmp_ne F.1 59 dX4_readFormula_54 (by decide) (fun _ => ?_) (fun h54 => False.elim (by revert h54; decide))
            refine j_aload_n F.1 dX4_readFormula_59 rfl ?_
            refine j_getr F (k := 4) inX4 rfl (by decide) fl_X4_18 ⟨by decide, rfl⟩ rfl dX4_readFormula_60 ?_
            refine j_iload_n F.1 dX4_readFormula_63 rfl ?_
            refine j_iload_n F.1 dX4_readFormula_64 rfl ?_
            refine j_iload_n F.1 dX4_readFormula_65 rfl ?_
            refine j_iload F.1 dX4_readFormula_66 rfl ?_
            refine j_callVv F (c_setFormula (p := 5) ⟨by decide, rfl⟩) co_X1_setFormula ml_X4_60 im_X1_setFormula se_X1_setFormula in_X1 rc_X1_setFormula rfl (by decide) (by decide) ⟨by decide, rfl⟩ rfl rfl (Nat.le_of_ble_eq_true rfl) dX4_readFormula_68 ?_
            refine j_iconst F.1 (1) dX4_readFormula_71 (by decide) ?_
            exact j_zret F (by first | exact Or.inl rfl | exact Or.inr rfl | exact b2_01 _) dX4_readFormula_72 ((kp_f hT (by unfold PF; rw [if_neg hk, if_neg (by rw [h1]; decide), if_neg hk5])))
          · have hk5 : kf (chr tx ln p) = 5 := (Int32.sub_add_cancel (kf (chr tx ln p)) 1).symm.trans (by rw [h29]; rfl)
            refine j_aload_n F.1 dX4_readFormula_32 rfl ?_
            refine j_bipush F.1 (58) dX4_readFormula_33 (by decide) ?_
            refine j_callVi F (c_readSign (hT.at (q := p + 2)) hln (by omega)) co_X4_readSign ml_X4_46 im_X4_readSign se_X4_readSign in_X4 rc_X4_readSign rfl (by decide) (by decide) ⟨by decide, rfl⟩ rfl rfl (Nat.le_of_ble_eq_true rfl) dX4_readFormula_35 ?_
            by_cases h2 : chr tx ln (p + 2) = 58
            · rw [atB_t (decide_eq_true h2), at_at]
              refine j_top (y := 1) (b2_t h2) ?_
              refine j_if_eq F.1 48 dX4_readFormula_38 (by decide) (fun h38 => False.elim (by revert h38; decide)) (fun _ => ?_)
              refine j_aload_n F.1 dX4_readFormula_41 rfl ?_
              refine j_callVi F (c_readLetter (hT.at (q := p + 3)) hln (by omega)) co_X4_readLetter ml_X4_39 im_X4_readLetter se_X4_readLetter in_X4 rc_X4_readLetter rfl (by decide) (by decide) ⟨by decide, rfl⟩ rfl rfl (Nat.le_of_ble_eq_true rfl) dX4_readFormula_42 ?_
              by_cases h3y : letB (chr tx ln (p + 3)) = true
              · have h3 : letB (chr tx ln (p + 3)) = true := h3y
                rw [atB_t h3, at_at]
                refine j_top (LT_t h3) ?_
                refine j_goto F.1 49 dX4_readFormula_45 (by decide) ?_
                refine j_istore F.1 dX4_readFormula_49 (by rw [hn]; decide) ?_
                refine j_iload F.1 dX4_readFormula_51 rfl ?_
                refine j_iconst F.1 (-1) dX4_readFormula_53 (by decide) ?_
                refine j_icmp_ne F.1 59 dX4_readFormula_54 (by decide) (fun h54 => ?_) (fun h54 => ?_)
                · refine j_aload_n F.1 dX4_readFormula_59 rfl ?_
                  refine j_getr F (k := 4) inX4 rfl (by decide) fl_X4_18 ⟨by decide, rfl⟩ rfl dX4_readFormula_60 ?_
                  refine j_iload_n F.1 dX4_readFormula_63 rfl ?_
                  refine j_iload_n F.1 dX4_readFormula_64 rfl ?_
                  refine j_iload_n F.1 dX4_readFormula_65 rfl ?_
                  refine j_iload F.1 dX4_readFormula_66 rfl ?_
                  refine j_callVv F (c_setFormula (p := 5) ⟨by decide, rfl⟩) co_X1_setFormula ml_X4_60 im_X1_setFormula se_X1_setFormula in_X1 rc_X1_setFormula rfl (by decide) (by decide) ⟨by decide, rfl⟩ rfl rfl (Nat.le_of_ble_eq_true rfl) dX4_readFormula_68 ?_
                  refine j_iconst F.1 (1) dX4_readFormula_71 (by decide) ?_
                  exact j_zret F (by first | exact Or.inl rfl | exact Or.inr rfl | exact b2_01 _) dX4_readFormula_72 ((kp_f hT (by unfold PF; rw [if_neg hk, if_neg (by rw [h1]; decide), if_pos hk5, if_pos h2, if_neg (by rw [h3]; decide), hk5])))
                · exact absurd h54 (LT_n h3)
              · have h3 := LTn h3y
                rw [atB_f h3]
                refine j_top (y := -1) (LT_f h3) ?_
                refine j_goto F.1 49 dX4_readFormula_45 (by decide) ?_
                refine j_istore F.1 dX4_readFormula_49 (by rw [hn]; decide) ?_
                refine j_iload F.1 dX4_readFormula_51 rfl ?_
                refine j_iconst F.1 (-1) dX4_readFormula_53 (by decide) ?_
                refine j_icmp_ne F.1 59 dX4_readFormula_54 (by decide) (fun h54 => False.elim (by revert h54; decide)) (fun _ => ?_)
                refine j_iconst F.1 (0) dX4_readFormula_57 (by decide) ?_
                exact j_zret F (by first | exact Or.inl rfl | exact Or.inr rfl | exact b2_01 _) dX4_readFormula_58 ((kp_n hT (by unfold PF; rw [if_neg hk, if_neg (by rw [h1]; decide), if_pos hk5, if_pos h2, if_pos h3])))
            · rw [atB_f (decide_eq_false h2)]
              refine j_top (y := 0) (b2_f h2) ?_
              refine j_if_eq F.1 48 dX4_readFormula_38 (by decide) (fun _ => ?_) (fun h38 => False.elim (by revert h38; decide))
              refine j_iconst F.1 (-1) dX4_readFormula_48 (by decide) ?_
              refine j_istore F.1 dX4_readFormula_49 (by rw [hn]; decide) ?_
              refine j_iload F.1 dX4_readFormula_51 rfl ?_
              refine j_iconst F.1 (-1) dX4_readFormula_53 (by decide) ?_
              refine j_icmp_ne F.1 59 dX4_readFormula_54 (by decide) (fun h54 => False.elim (by revert h54; decide)) (fun _ => ?_)
              refine j_iconst F.1 (0) dX4_readFormula_57 (by decide) ?_
              exact j_zret F (by first | exact Or.inl rfl | exact Or.inr rfl | exact b2_01 _) dX4_readFormula_58 ((kp_n hT (by unfold PF; rw [if_neg hk, if_neg (by rw [h1]; decide), if_pos hk5, if_neg h2])))
        · exact absurd h19 (LT_n h1)
      · have h1 := LTn h1y
        rw [atB_f h1]
        refine j_top (y := -1) (LT_f h1) ?_
        refine j_istore_n F.1 dX4_readFormula_16 (by rw [hn]; decide) ?_
        refine j_iload_n F.1 dX4_readFormula_17 rfl ?_
        refine j_iconst F.1 (-1) dX4_readFormula_18 (by decide) ?_
        refine j_icmp_ne F.1 24 dX4_readFormula_19 (by decide) (fun h19 => False.elim (by revert h19; decide)) (fun _ => ?_)
        refine j_iconst F.1 (0) dX4_readFormula_22 (by decide) ?_
        exact j_zret F (by first | exact Or.inl rfl | exact Or.inr rfl | exact b2_01 _) dX4_readFormula_23 ((kp_n hT (by unfold PF; rw [if_neg hk, if_pos h1])))
    · exact absurd (kf_m1.mp h7) hk
def KPR (v : rcM) (tx : Nat → Int32) (ln p : Nat) : Option Value → rcM → Prop := fun r u => FX v u ∧ TX u tx ln (PR tx ln p).1 ∧ match (PR tx ln p).2 with
  | none => r = some (.int 0)
  | some d => r = some (.int 1) ∧ u 3 3 = d.1 ∧ DF u d.2
def c3M (v : rcM) (x : Int32) : rcM := rcu v 3 3 x
theorem TX.c3 {v : rcM} {tx : Nat → Int32} {ln p : Nat} {x : Int32} (h : TX v tx ln p) : TX (c3M v x) tx ln p := ⟨by unfold c3M; rw [rcu_k (by decide)]; exact h.1, by unfold c3M; rw [rcu_k (by decide)]; exact h.2.1, fun i hi => by unfold c3M; rw [rcu_ne (by decide)]; exact h.2.2 i hi⟩
theorem FX.c3 {v : rcM} {x : Int32} : FX v (c3M v x) := ⟨fun id h3 _ => rcu_ne h3, rcu_k (by decide)⟩
theorem kr_n {v u : rcM} {tx : Nat → Int32} {ln p q : Nat} (h : PR tx ln p = (q, none)) (hF : FX v u) (hT : TX u tx ln q) : KPR v tx ln p (some (.int 0)) u := by
  unfold KPR
  rw [h]
  exact ⟨hF, hT, rfl⟩
theorem DF.at {u : rcM} {d : D5} {q : Nat} (h : DF u d) : DF (atM u q) d := by
  unfold DF atM at *
  rw [rcu_ne (by decide)]
  exact h
theorem kr_s {v u : rcM} {tx : Nat → Int32} {ln p q : Nat} {d : Int32 × D5} (h : PR tx ln p = (q, some d)) (hF : FX v u) (hT : TX u tx ln q) (h3 : u 3 3 = d.1) (hD : DF u d.2) : KPR v tx ln p (some (.int 1)) u := by
  unfold KPR
  rw [h]
  exact ⟨hF, hT, rfl, h3, hD⟩
set_option maxHeartbeats 4000000 in
set_option maxRecDepth 100000 in
theorem c_readDefinition {Y : rcY} {la : Launch} {v : rcM} {tx : Nat → Int32} {ln p : Nat} (hT : TX v tx ln p) (hln : ln ≤ 60) (hp : p ≤ 60) : rcT shC 139 Y la 4 (yX4_readDefinition, cX4_readDefinition, 3, (some .boolean)) [.ref (Y.2.1 3)] (v) (KPR v tx ln p) := by
  refine rcT.of (by decide +kernel) (Nat.le_of_ble_eq_true rfl) (fun X F hn => ?_)
  refine j_aload_n F.1 dX4_readDefinition_0 rfl ?_
  refine j_aload_n F.1 dX4_readDefinition_1 rfl ?_
  refine j_callVi F (c_readLetter hT hln (by omega)) co_X4_readLetter ml_X4_39 im_X4_readLetter se_X4_readLetter in_X4 rc_X4_readLetter rfl (by decide) (by decide) ⟨by decide, rfl⟩ rfl rfl (Nat.le_of_ble_eq_true rfl) dX4_readDefinition_2 ?_
  by_cases h0y : letB (chr tx ln p) = true
  · have h0 : letB (chr tx ln p) = true := h0y
    rw [atB_t h0]
    refine j_top (LT_t h0) ?_
    refine j_puti F (k := 3) inX4 tyX4_ok nmX4 rfl (by decide) fl_X4_43 rfl rfl ⟨by decide, rfl⟩ rfl dX4_readDefinition_5 ?_
    refine j_aload_n F.1 dX4_readDefinition_8 rfl ?_
    refine j_geti F (k := 3) inX4 rfl (by decide) fl_X4_43 ⟨by decide, rfl⟩ rfl dX4_readDefinition_9 ?_
    refine j_top (y := chr tx ln p - 97) (by rw [rcu_self]) ?_
    have hTw : TX (c3M (atM v (p + 1)) (chr tx ln p - 97)) tx ln (p + 1) := hT.at.c3
    have hFw : FX v (c3M (atM v (p + 1)) (chr tx ln p - 97)) := FX.at.tr FX.c3
    refine j_iconst F.1 (-1) dX4_readDefinition_12 (by decide) ?_
    refine j_icmp_eq F.1 25 dX4_readDefinition_13 (by decide) (fun h13 => ?_) (fun h13 => ?_)
    · exact absurd h13 (LT_n h0)
    · refine j_aload_n F.1 dX4_readDefinition_16 rfl ?_
      refine j_bipush F.1 (61) dX4_readDefinition_17 (by decide) ?_
      refine j_callVi F (c_readSign hTw hln (by omega)) co_X4_readSign ml_X4_46 im_X4_readSign se_X4_readSign in_X4 rc_X4_readSign rfl (by decide) (by decide) ⟨by decide, rfl⟩ rfl rfl (Nat.le_of_ble_eq_true rfl) dX4_readDefinition_19 ?_
      by_cases h1 : chr tx ln (p + 1) = 61
      · rw [atB_t (decide_eq_true h1)]
        refine j_top (y := 1) (b2_t h1) ?_
        refine j_if_ne F.1 27 dX4_readDefinition_22 (by decide) (fun _ => ?_) (fun h22 => False.elim (by revert h22; decide))
        refine j_aload_n F.1 dX4_readDefinition_27 rfl ?_
        have tail : ∀ (R : Nat × Option D5) (r : Option Value) (w u : rcM), PB tx ln (p + 2) = R → FX v w → w 3 3 = chr tx ln p - 97 → KP w tx ln R r u → rcJ shC 139 Y X (KPR v tx ln p) 49 [(0, .ref (Y.2.1 3))] r.toList u := by
          intro R r w u hPB hF h3 hr
          have hq90 := PB_le (tx := tx) (ln := ln) (p := p + 2)
          rw [hPB] at hq90
          obtain ⟨fx, h33, hTq, hm⟩ := hr
          obtain ⟨q, d⟩ := R
          cases d with
          | none =>
            obtain rfl := hm
            refine j_istore_n F.1 dX4_readDefinition_49 (by rw [hn]; decide) ?_
            refine j_iload_n F.1 dX4_readDefinition_50 rfl ?_
            refine j_if_eq F.1 67 dX4_readDefinition_51 (by decide) (fun _ => ?_) (fun h51 => False.elim (by revert h51; decide))
            refine j_iconst F.1 (0) dX4_readDefinition_67 (by decide) ?_
            exact j_zret F (by first | exact Or.inl rfl | exact Or.inr rfl | exact b2_01 _) dX4_readDefinition_68 ((kr_n (by unfold PR; rw [if_neg (by rw [h0]; decide), if_pos h1]; rw [hPB]) (hF.tr fx) hTq))
          | some d =>
            obtain ⟨rfl, hD⟩ := hm
            refine j_istore_n F.1 dX4_readDefinition_49 (by rw [hn]; decide) ?_
            refine j_iload_n F.1 dX4_readDefinition_50 rfl ?_
            refine j_if_eq F.1 67 dX4_readDefinition_51 (by decide) (fun h51 => False.elim (by revert h51; decide)) (fun _ => ?_)
            refine j_aload_n F.1 dX4_readDefinition_54 rfl ?_
            refine j_bipush F.1 (59) dX4_readDefinition_55 (by decide) ?_
            refine j_callVi F (c_readSign hTq hln (by omega)) co_X4_readSign ml_X4_46 im_X4_readSign se_X4_readSign in_X4 rc_X4_readSign rfl (by decide) (by decide) ⟨by decide, rfl⟩ rfl rfl (Nat.le_of_ble_eq_true rfl) dX4_readDefinition_57 ?_
            by_cases h59 : chr tx ln q = 59
            · rw [atB_t (decide_eq_true h59)]
              refine j_top (y := 1) (b2_t h59) ?_
              refine j_if_eq F.1 67 dX4_readDefinition_60 (by decide) (fun h60 => False.elim (by revert h60; decide)) (fun _ => ?_)
              refine j_iconst F.1 (1) dX4_readDefinition_63 (by decide) ?_
              refine j_goto F.1 68 dX4_readDefinition_64 (by decide) ?_
              exact j_zret F (by first | exact Or.inl rfl | exact Or.inr rfl | exact b2_01 _) dX4_readDefinition_68 ((kr_s (by unfold PR; rw [if_neg (by rw [h0]; decide), if_pos h1]; rw [hPB]; dsimp only; rw [if_pos h59]) ((hF.tr fx).tr FX.at) hTq.at (by rw [at_33, h33]; exact h3) hD.at))
            · rw [atB_f (decide_eq_false h59)]
              refine j_top (y := 0) (b2_f h59) ?_
              refine j_if_eq F.1 67 dX4_readDefinition_60 (by decide) (fun _ => ?_) (fun h60 => False.elim (by revert h60; decide))
              refine j_iconst F.1 (0) dX4_readDefinition_67 (by decide) ?_
              exact j_zret F (by first | exact Or.inl rfl | exact Or.inr rfl | exact b2_01 _) dX4_readDefinition_68 ((kr_n (by unfold PR; rw [if_neg (by rw [h0]; decide), if_pos h1]; rw [hPB]; dsimp only; rw [if_neg h59]) (hF.tr fx) hTq))
        refine j_callVi F (c_readLetter (hTw.at (q := p + 2)) hln (by omega)) co_X4_readLetter ml_X4_39 im_X4_readLetter se_X4_readLetter in_X4 rc_X4_readLetter rfl (by decide) (by decide) ⟨by decide, rfl⟩ rfl rfl (Nat.le_of_ble_eq_true rfl) dX4_readDefinition_28 ?_
        by_cases h2y : letB (chr tx ln (p + 2)) = true
        · have h2 : letB (chr tx ln (p + 2)) = true := h2y
          rw [atB_t h2, at_at]
          refine j_top (LT_t h2) ?_
          refine j_istore_n F.1 dX4_readDefinition_31 (by rw [hn]; decide) ?_
          refine j_iload_n F.1 dX4_readDefinition_32 rfl ?_
          refine j_iconst F.1 (-1) dX4_readDefinition_33 (by decide) ?_
          refine j_icmp_ne F.1 44 dX4_readDefinition_34 (by decide) (fun h34 => ?_) (fun h34 => ?_)
          · refine j_aload_n F.1 dX4_readDefinition_44 rfl ?_
            refine j_iload_n F.1 dX4_readDefinition_45 rfl ?_
            refine j_callV F (c_readFormula (hTw.at (q := p + 3)) hln (by omega)) co_X4_readFormula ml_X4_53 im_X4_readFormula se_X4_readFormula in_X4 rc_X4_readFormula rfl (by decide) (by decide) ⟨by decide, rfl⟩ rfl rfl (Nat.le_of_ble_eq_true rfl) dX4_readDefinition_46 (fun r u hr => ?_)
            refine j_loc [(0, .ref (Y.2.1 3))] rfl ?_
            rw [List.append_nil]
            exact tail (PF tx ln (p + 3) (chr tx ln (p + 2))) r (atM (c3M (atM v (p + 1)) (chr tx ln p - 97)) (p + 3)) u (by unfold PB; rw [if_pos h2]) (hFw.tr FX.at) (by rw [at_33]; exact rcu_self) hr
          · exact absurd h34 (LT_n h2)
        · have h2 := LTn h2y
          rw [atB_f h2]
          refine j_top (y := -1) (LT_f h2) ?_
          refine j_istore_n F.1 dX4_readDefinition_31 (by rw [hn]; decide) ?_
          refine j_iload_n F.1 dX4_readDefinition_32 rfl ?_
          refine j_iconst F.1 (-1) dX4_readDefinition_33 (by decide) ?_
          refine j_icmp_ne F.1 44 dX4_readDefinition_34 (by decide) (fun h34 => False.elim (by revert h34; decide)) (fun _ => ?_)
          refine j_aload_n F.1 dX4_readDefinition_37 rfl ?_
          refine j_callV F (c_readNumber (hTw.at (q := p + 2)) hln (by omega)) co_X4_readNumber ml_X4_50 im_X4_readNumber se_X4_readNumber in_X4 rc_X4_readNumber rfl (by decide) (by decide) ⟨by decide, rfl⟩ rfl rfl (Nat.le_of_ble_eq_true rfl) dX4_readDefinition_38 (fun r u hr => ?_)
          refine j_goto F.1 49 dX4_readDefinition_41 (by decide) ?_
          refine j_loc [(0, .ref (Y.2.1 3))] rfl ?_
          rw [List.append_nil]
          exact tail (PN tx ln (p + 2)) r (atM (c3M (atM v (p + 1)) (chr tx ln p - 97)) (p + 2)) u (by unfold PB; rw [if_neg (by rw [h2]; decide)]) (hFw.tr FX.at) (by rw [at_33]; exact rcu_self) hr
      · rw [atB_f (decide_eq_false h1)]
        refine j_top (y := 0) (b2_f h1) ?_
        refine j_if_ne F.1 27 dX4_readDefinition_22 (by decide) (fun h22 => False.elim (by revert h22; decide)) (fun _ => ?_)
        refine j_iconst F.1 (0) dX4_readDefinition_25 (by decide) ?_
        exact j_zret F (by first | exact Or.inl rfl | exact Or.inr rfl | exact b2_01 _) dX4_readDefinition_26 ((kr_n (by unfold PR; rw [if_neg (by rw [h0]; decide), if_neg h1]) hFw hTw))
  · have h0 := LTn h0y
    rw [atB_f h0]
    refine j_top (y := -1) (LT_f h0) ?_
    refine j_puti F (k := 3) inX4 tyX4_ok nmX4 rfl (by decide) fl_X4_43 rfl rfl ⟨by decide, rfl⟩ rfl dX4_readDefinition_5 ?_
    refine j_aload_n F.1 dX4_readDefinition_8 rfl ?_
    refine j_geti F (k := 3) inX4 rfl (by decide) fl_X4_43 ⟨by decide, rfl⟩ rfl dX4_readDefinition_9 ?_
    refine j_top (y := -1) (by rw [rcu_self]) ?_
    refine j_iconst F.1 (-1) dX4_readDefinition_12 (by decide) ?_
    refine j_icmp_eq F.1 25 dX4_readDefinition_13 (by decide) (fun _ => ?_) (fun h13 => False.elim (by revert h13; decide))
    refine j_iconst F.1 (0) dX4_readDefinition_25 (by decide) ?_
    exact j_zret F (by first | exact Or.inl rfl | exact Or.inr rfl | exact b2_01 _) dX4_readDefinition_26 ((kr_n (by unfold PR; rw [if_pos h0]) FX.c3 hT.c3))
