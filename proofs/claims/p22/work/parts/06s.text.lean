/-! The class: numbers, formulas, definitions as texts. -/
def DF (u : rcM) (d : D5) : Prop := u 5 0 + 1 = d.1 ∧ u 5 1 = d.2.1 ∧ u 5 2 = d.2.2.1 ∧ u 5 3 = d.2.2.2.1 ∧ u 5 4 = d.2.2.2.2
def KP (v : rcM) (tx : Nat → Int32) (ln : Nat) (R : Nat × Option D5) : Option Value → rcM → Prop := fun r u => FX v u ∧ u 3 3 = v 3 3 ∧ TX u tx ln R.1 ∧ match R.2 with
  | none => r = some (.int 0)
  | some d => r = some (.int 1) ∧ DF u d
theorem at_self {v : rcM} {tx : Nat → Int32} {ln p : Nat} (h : TX v tx ln p) : atM v p = v := by
  funext b j
  unfold atM rcu
  by_cases e : b = 3 ∧ j = 2
  · rw [if_pos e, e.1, e.2]; exact h.2.1.symm
  · rw [if_neg e]
theorem at_33 {v : rcM} {q : Nat} : atM v q 3 3 = v 3 3 := rcu_k (by decide)
theorem kp_1 {v : rcM} {tx : Nat → Int32} {ln p q : Nat} {R : Nat × Option D5} {a b c d e : Int32} (hT : TX v tx ln p) (hR : R = (q, some (a + 1, b, c, d, e))) : KP v tx ln R (some (.int 1)) (setD (atM v q) 5 a b c d e) := by
  rw [hR]
  refine ⟨FX.at.tr FX.set, by rw [setD_n (by decide)]; exact at_33, hT.at.set, rfl, ?_⟩
  unfold DF
  rw [setD_0, setD_1, setD_2, setD_3, setD_4]
  exact ⟨rfl, rfl, rfl, rfl, rfl⟩
theorem kp_0 {v : rcM} {tx : Nat → Int32} {ln p q : Nat} {R : Nat × Option D5} {a b c d e : Int32} (hT : TX v tx ln p) (hR : R = (q, none)) : KP v tx ln R (some (.int 0)) (setD (atM v q) 5 a b c d e) := by
  rw [hR]
  exact ⟨FX.at.tr FX.set, by rw [setD_n (by decide)]; exact at_33, hT.at.set, rfl⟩
theorem kp_n {v : rcM} {tx : Nat → Int32} {ln p q : Nat} {R : Nat × Option D5} (hT : TX v tx ln p) (hR : R = (q, none)) : KP v tx ln R (some (.int 0)) (atM v q) := by
  rw [hR]
  exact ⟨FX.at, at_33, hT.at, rfl⟩
theorem atB_t {v : rcM} {p : Nat} {b : Bool} (h : b = true) : atB v p b = atM v (p + 1) := by unfold atB; rw [if_pos h]
theorem atB_f {v : rcM} {p : Nat} {b : Bool} (h : b = false) : atB v p b = v := by unfold atB; rw [h]; rfl
theorem LT_t {c : Int32} (h : letB c = true) : LT c = c - 97 := by unfold LT; rw [if_pos h]
theorem LT_f {c : Int32} (h : letB c = false) : LT c = -1 := by unfold LT; rw [h]; rfl
theorem LT_n {c : Int32} (h : letB c = true) : ¬ c - 97 = -1 := fun z => by
  have q := (let_is.mpr h).1
  rw [z] at q
  exact absurd q (by decide)
theorem dig_b {c : Int32} : (48 ≤ c ∧ c ≤ 57) ↔ digB c = true := by unfold digB; rw [decide_eq_true_iff]
theorem at_s {v : rcM} {q : Nat} : rcu (atM v q) 3 2 (nI (q + 1)) = atM v (q + 1) := at_at
set_option maxHeartbeats 4000000 in
set_option maxRecDepth 100000 in
theorem c_readNumber {Y : rcY} {la : Launch} {v : rcM} {tx : Nat → Int32} {ln p : Nat} (hT : TX v tx ln p) (hln : ln ≤ 60) (hp : p ≤ 80) : rcT shC 139 Y la 2 (yX4_readNumber, cX4_readNumber, 4, (some .boolean)) [.ref (Y.2.1 3)] (v) (KP v tx ln (PN tx ln p)) := by
  refine rcT.of (by decide +kernel) (Nat.le_of_ble_eq_true rfl) (fun X F hn => ?_)
  by_cases h45 : chr tx ln p = 45
  · skip
    have loop : ∀ r t : Nat, t ≤ 5 → 5 < t + r → ∀ x, dg tx ln 5 ((p + 1)) 0 = dg tx ln (5 - (t)) ((p + 1) + (t)) x → rcJ shC 139 Y X (KP v tx ln (PN tx ln p)) 11 [(3, .int (nI (t))), (2, .int (x)), (1, .int 1), (0, .ref (Y.2.1 3))] [] (atM v ((p + 1) + (t))) := by
      intro r
      induction r with
      | zero => intro t ht hr; omega
      | succ r ih =>
        intro t ht hr
        intro x hx
        refine j_iload_n F.1 dX4_readNumber_11 rfl ?_
        refine j_iconst F.1 (5) dX4_readNumber_12 (by decide) ?_
        refine j_icmp_ge F.1 59 dX4_readNumber_13 (by decide) (fun h13 => ?_) (fun h13 => ?_)
        · have t5 : t = 5 := by have := (nI_leI (a := 5) (b := t) (by omega) (by omega)).mp h13; omega
          subst t5
          have hd : dg tx ln 5 ((p + 1)) 0 = ((p + 1) + 5, x) := hx
          refine j_aload_n F.1 dX4_readNumber_59 rfl ?_
          refine j_getr F (k := 4) inX4 rfl (by decide) fl_X4_18 ⟨by decide, rfl⟩ rfl dX4_readNumber_60 ?_
          refine j_iload_n F.1 dX4_readNumber_63 rfl ?_
          refine j_if_eq F.1 72 dX4_readNumber_64 (by decide) (fun h64 => False.elim (by revert h64; decide)) (fun _ => ?_)
          refine j_iload_n F.1 dX4_readNumber_67 rfl ?_
          refine j_ineg F.1 dX4_readNumber_68 ?_
          refine j_goto F.1 73 dX4_readNumber_69 (by decide) ?_
          refine j_callVv F (c_setValue (p := 5) ⟨by decide, rfl⟩) co_X1_setValue ml_X4_71 im_X1_setValue se_X1_setValue in_X1 rc_X1_setValue rfl (by decide) (by decide) ⟨by decide, rfl⟩ rfl rfl (Nat.le_of_ble_eq_true rfl) dX4_readNumber_73 ?_
          refine j_iload_n F.1 dX4_readNumber_76 rfl ?_
          refine j_if_le F.1 84 dX4_readNumber_77 (by decide) (fun h77 => ?_) (fun h77 => ?_)
          · have tz : 5 = 0 := Nat.eq_zero_of_le_zero ((nI_leI (a := 5) (b := 0) (by omega) (by decide)).mp h77)
            have hR : PN tx ln p = ((p + 1) + 5, none) := by unfold PN; rw [if_pos h45, hd]; dsimp only; rw [if_neg (by omega)]
            refine j_iconst F.1 (0) dX4_readNumber_84 (by decide) ?_
            exact j_zret F (by first | exact Or.inl rfl | exact Or.inr rfl | exact b2_01 _) dX4_readNumber_85 ((by first | exact kp_1 hT hR | exact kp_0 hT hR))
          · have tz : 0 < 5 := Nat.pos_of_ne_zero (fun z => h77 (by rw [z]; decide))
            have hR : PN tx ln p = ((p + 1) + 5, some (-1 + 1, (-x), 0, 0, 0)) := by unfold PN; rw [if_pos h45, hd]; dsimp only; rw [if_pos (by omega)]; rfl
            refine j_iconst F.1 (1) dX4_readNumber_80 (by decide) ?_
            refine j_goto F.1 85 dX4_readNumber_81 (by decide) ?_
            exact j_zret F (by first | exact Or.inl rfl | exact Or.inr rfl | exact b2_01 _) dX4_readNumber_85 ((by first | exact kp_1 hT hR | exact kp_0 hT hR))
        · have q13 : t < 5 := Nat.lt_of_not_le (fun z => h13 ((nI_leI (a := 5) (b := t) (by omega) (by omega)).mpr z))
          refine j_aload_n F.1 dX4_readNumber_16 rfl ?_
          refine j_callVi F (c_character (p := (p + 1) + t) hT.at hln (by omega)) co_X4_character ml_X4_64 im_X4_character se_X4_character in_X4 rc_X4_character rfl (by decide) (by decide) ⟨by decide, rfl⟩ rfl rfl (Nat.le_of_ble_eq_true rfl) dX4_readNumber_17 ?_
          refine j_bipush F.1 (48) dX4_readNumber_20 (by decide) ?_
          refine j_bipush F.1 (57) dX4_readNumber_22 (by decide) ?_
          refine j_callSNi F (c_isWithin) co_X5_isWithin mn_X4_67 st_X5_isWithin in_X5 rc_X5_isWithin rfl (by decide) (by decide) rfl (Nat.le_of_ble_eq_true rfl) dX4_readNumber_24 ?_
          refine j_if_eq F.1 59 dX4_readNumber_27 (by decide) (fun h27 => ?_) (fun h27 => ?_)
          · rw [b2_0] at h27
            have hd : dg tx ln 5 ((p + 1)) 0 = ((p + 1) + t, x) := by rw [hx, show 5 - t = (5 - (t + 1)) + 1 by omega, dg_s, if_neg (fun z => h27 (dig_b.mpr z))]
            refine j_aload_n F.1 dX4_readNumber_59 rfl ?_
            refine j_getr F (k := 4) inX4 rfl (by decide) fl_X4_18 ⟨by decide, rfl⟩ rfl dX4_readNumber_60 ?_
            refine j_iload_n F.1 dX4_readNumber_63 rfl ?_
            refine j_if_eq F.1 72 dX4_readNumber_64 (by decide) (fun h64 => False.elim (by revert h64; decide)) (fun _ => ?_)
            refine j_iload_n F.1 dX4_readNumber_67 rfl ?_
            refine j_ineg F.1 dX4_readNumber_68 ?_
            refine j_goto F.1 73 dX4_readNumber_69 (by decide) ?_
            refine j_callVv F (c_setValue (p := 5) ⟨by decide, rfl⟩) co_X1_setValue ml_X4_71 im_X1_setValue se_X1_setValue in_X1 rc_X1_setValue rfl (by decide) (by decide) ⟨by decide, rfl⟩ rfl rfl (Nat.le_of_ble_eq_true rfl) dX4_readNumber_73 ?_
            refine j_iload_n F.1 dX4_readNumber_76 rfl ?_
            refine j_if_le F.1 84 dX4_readNumber_77 (by decide) (fun h77 => ?_) (fun h77 => ?_)
            · have tz : t = 0 := Nat.eq_zero_of_le_zero ((nI_leI (a := t) (b := 0) (by omega) (by decide)).mp h77)
              have hR : PN tx ln p = ((p + 1) + t, none) := by unfold PN; rw [if_pos h45, hd]; dsimp only; rw [if_neg (by omega)]
              refine j_iconst F.1 (0) dX4_readNumber_84 (by decide) ?_
              exact j_zret F (by first | exact Or.inl rfl | exact Or.inr rfl | exact b2_01 _) dX4_readNumber_85 ((by first | exact kp_1 hT hR | exact kp_0 hT hR))
            · have tz : 0 < t := Nat.pos_of_ne_zero (fun z => h77 (by rw [z]; decide))
              have hR : PN tx ln p = ((p + 1) + t, some (-1 + 1, (-x), 0, 0, 0)) := by unfold PN; rw [if_pos h45, hd]; dsimp only; rw [if_pos (by omega)]; rfl
              refine j_iconst F.1 (1) dX4_readNumber_80 (by decide) ?_
              refine j_goto F.1 85 dX4_readNumber_81 (by decide) ?_
              exact j_zret F (by first | exact Or.inl rfl | exact Or.inr rfl | exact b2_01 _) dX4_readNumber_85 ((by first | exact kp_1 hT hR | exact kp_0 hT hR))
          · rw [b2_0, Classical.not_not] at h27
            have hx2 : dg tx ln 5 ((p + 1)) 0 = dg tx ln (5 - (t + 1)) ((p + 1) + (t + 1)) (x * 10 + chr tx ln ((p + 1) + t) - 48) := by rw [hx, show 5 - t = (5 - (t + 1)) + 1 by omega, dg_s, if_pos (dig_b.mp h27), Int32.mul_comm]; rfl
            refine j_iload_n F.1 dX4_readNumber_30 rfl ?_
            refine j_bipush F.1 (10) dX4_readNumber_31 (by decide) ?_
            refine j_imul F.1 dX4_readNumber_33 ?_
            refine j_aload_n F.1 dX4_readNumber_34 rfl ?_
            refine j_callVi F (c_character (p := (p + 1) + t) hT.at hln (by omega)) co_X4_character ml_X4_64 im_X4_character se_X4_character in_X4 rc_X4_character rfl (by decide) (by decide) ⟨by decide, rfl⟩ rfl rfl (Nat.le_of_ble_eq_true rfl) dX4_readNumber_35 ?_
            refine j_iadd F.1 dX4_readNumber_38 ?_
            refine j_bipush F.1 (48) dX4_readNumber_39 (by decide) ?_
            refine j_isub F.1 dX4_readNumber_41 ?_
            refine j_istore_n F.1 dX4_readNumber_42 (by rw [hn]; decide) ?_
            refine j_aload_n F.1 dX4_readNumber_43 rfl ?_
            refine j_dup F.1 dX4_readNumber_44 rfl ?_
            refine j_geti F (k := 2) inX4 rfl (by decide) fl_X4_26 ⟨by decide, rfl⟩ rfl dX4_readNumber_45 ?_
            refine j_iconst F.1 (1) dX4_readNumber_48 (by decide) ?_
            refine j_iadd F.1 dX4_readNumber_49 ?_
            refine j_top (y := nI ((p + 1) + t + 1)) (by unfold atM; rw [rcu_self, nI_1]) ?_
            refine j_puti F (k := 2) inX4 tyX4_ok nmX4 rfl (by decide) fl_X4_26 rfl rfl ⟨by decide, rfl⟩ rfl dX4_readNumber_50 ?_
            rw [at_s]
            refine j_iinc F.1 (1) dX4_readNumber_53 (by decide) rfl (by rw [hn]; decide) ?_
            refine j_goto F.1 11 dX4_readNumber_56 (by decide) ?_
            refine j_loc [(3, .int (nI (t + 1))), (2, .int (x * 10 + chr tx ln ((p + 1) + t) - 48)), (1, .int 1), (0, .ref (Y.2.1 3))] (by rw [← nI_1]; rfl) ?_
            exact ih (t + 1) (by omega) (by omega) _ hx2
    refine j_aload_n F.1 dX4_readNumber_0 rfl ?_
    refine j_bipush F.1 (45) dX4_readNumber_1 (by decide) ?_
    refine j_callVi F (c_readSign hT hln (by omega)) co_X4_readSign ml_X4_46 im_X4_readSign se_X4_readSign in_X4 rc_X4_readSign rfl (by decide) (by decide) ⟨by decide, rfl⟩ rfl rfl (Nat.le_of_ble_eq_true rfl) dX4_readNumber_3 ?_
    rw [atB_t (decide_eq_true h45)]
    refine j_top (y := 1) (b2_t h45) ?_
    refine j_istore_n F.1 dX4_readNumber_6 (by rw [hn]; decide) ?_
    refine j_iconst F.1 (0) dX4_readNumber_7 (by decide) ?_
    refine j_istore_n F.1 dX4_readNumber_8 (by rw [hn]; decide) ?_
    refine j_iconst F.1 (0) dX4_readNumber_9 (by decide) ?_
    refine j_istore_n F.1 dX4_readNumber_10 (by rw [hn]; decide) ?_
    refine j_loc [(3, .int (nI (0))), (2, .int (0)), (1, .int 1), (0, .ref (Y.2.1 3))] rfl ?_
    exact loop 6 0 (by omega) (by omega) 0 rfl
  · skip
    have loop : ∀ r t : Nat, t ≤ 5 → 5 < t + r → ∀ x, dg tx ln 5 (p) 0 = dg tx ln (5 - (t)) (p + (t)) x → rcJ shC 139 Y X (KP v tx ln (PN tx ln p)) 11 [(3, .int (nI (t))), (2, .int (x)), (1, .int 0), (0, .ref (Y.2.1 3))] [] (atM v (p + (t))) := by
      intro r
      induction r with
      | zero => intro t ht hr; omega
      | succ r ih =>
        intro t ht hr
        intro x hx
        refine j_iload_n F.1 dX4_readNumber_11 rfl ?_
        refine j_iconst F.1 (5) dX4_readNumber_12 (by decide) ?_
        refine j_icmp_ge F.1 59 dX4_readNumber_13 (by decide) (fun h13 => ?_) (fun h13 => ?_)
        · have t5 : t = 5 := by have := (nI_leI (a := 5) (b := t) (by omega) (by omega)).mp h13; omega
          subst t5
          have hd : dg tx ln 5 (p) 0 = (p + 5, x) := hx
          refine j_aload_n F.1 dX4_readNumber_59 rfl ?_
          refine j_getr F (k := 4) inX4 rfl (by decide) fl_X4_18 ⟨by decide, rfl⟩ rfl dX4_readNumber_60 ?_
          refine j_iload_n F.1 dX4_readNumber_63 rfl ?_
          refine j_if_eq F.1 72 dX4_readNumber_64 (by decide) (fun _ => ?_) (fun h64 => False.elim (by revert h64; decide))
          refine j_iload_n F.1 dX4_readNumber_72 rfl ?_
          refine j_callVv F (c_setValue (p := 5) ⟨by decide, rfl⟩) co_X1_setValue ml_X4_71 im_X1_setValue se_X1_setValue in_X1 rc_X1_setValue rfl (by decide) (by decide) ⟨by decide, rfl⟩ rfl rfl (Nat.le_of_ble_eq_true rfl) dX4_readNumber_73 ?_
          refine j_iload_n F.1 dX4_readNumber_76 rfl ?_
          refine j_if_le F.1 84 dX4_readNumber_77 (by decide) (fun h77 => ?_) (fun h77 => ?_)
          · have tz : 5 = 0 := Nat.eq_zero_of_le_zero ((nI_leI (a := 5) (b := 0) (by omega) (by decide)).mp h77)
            have hR : PN tx ln p = (p + 5, none) := by unfold PN; rw [if_neg h45, hd]; dsimp only; rw [if_neg (by omega)]
            refine j_iconst F.1 (0) dX4_readNumber_84 (by decide) ?_
            exact j_zret F (by first | exact Or.inl rfl | exact Or.inr rfl | exact b2_01 _) dX4_readNumber_85 ((by first | exact kp_1 hT hR | exact kp_0 hT hR))
          · have tz : 0 < 5 := Nat.pos_of_ne_zero (fun z => h77 (by rw [z]; decide))
            have hR : PN tx ln p = (p + 5, some (-1 + 1, x, 0, 0, 0)) := by unfold PN; rw [if_neg h45, hd]; dsimp only; rw [if_pos (by omega)]; rfl
            refine j_iconst F.1 (1) dX4_readNumber_80 (by decide) ?_
            refine j_goto F.1 85 dX4_readNumber_81 (by decide) ?_
            exact j_zret F (by first | exact Or.inl rfl | exact Or.inr rfl | exact b2_01 _) dX4_readNumber_85 ((by first | exact kp_1 hT hR | exact kp_0 hT hR))
        · have q13 : t < 5 := Nat.lt_of_not_le (fun z => h13 ((nI_leI (a := 5) (b := t) (by omega) (by omega)).mpr z))
          refine j_aload_n F.1 dX4_readNumber_16 rfl ?_
          refine j_callVi F (c_character (p := p + t) hT.at hln (by omega)) co_X4_character ml_X4_64 im_X4_character se_X4_character in_X4 rc_X4_character rfl (by decide) (by decide) ⟨by decide, rfl⟩ rfl rfl (Nat.le_of_ble_eq_true rfl) dX4_readNumber_17 ?_
          refine j_bipush F.1 (48) dX4_readNumber_20 (by decide) ?_
          refine j_bipush F.1 (57) dX4_readNumber_22 (by decide) ?_
          refine j_callSNi F (c_isWithin) co_X5_isWithin mn_X4_67 st_X5_isWithin in_X5 rc_X5_isWithin rfl (by decide) (by decide) rfl (Nat.le_of_ble_eq_true rfl) dX4_readNumber_24 ?_
          refine j_if_eq F.1 59 dX4_readNumber_27 (by decide) (fun h27 => ?_) (fun h27 => ?_)
          · rw [b2_0] at h27
            have hd : dg tx ln 5 (p) 0 = (p + t, x) := by rw [hx, show 5 - t = (5 - (t + 1)) + 1 by omega, dg_s, if_neg (fun z => h27 (dig_b.mpr z))]
            refine j_aload_n F.1 dX4_readNumber_59 rfl ?_
            refine j_getr F (k := 4) inX4 rfl (by decide) fl_X4_18 ⟨by decide, rfl⟩ rfl dX4_readNumber_60 ?_
            refine j_iload_n F.1 dX4_readNumber_63 rfl ?_
            refine j_if_eq F.1 72 dX4_readNumber_64 (by decide) (fun _ => ?_) (fun h64 => False.elim (by revert h64; decide))
            refine j_iload_n F.1 dX4_readNumber_72 rfl ?_
            refine j_callVv F (c_setValue (p := 5) ⟨by decide, rfl⟩) co_X1_setValue ml_X4_71 im_X1_setValue se_X1_setValue in_X1 rc_X1_setValue rfl (by decide) (by decide) ⟨by decide, rfl⟩ rfl rfl (Nat.le_of_ble_eq_true rfl) dX4_readNumber_73 ?_
            refine j_iload_n F.1 dX4_readNumber_76 rfl ?_
            refine j_if_le F.1 84 dX4_readNumber_77 (by decide) (fun h77 => ?_) (fun h77 => ?_)
            · have tz : t = 0 := Nat.eq_zero_of_le_zero ((nI_leI (a := t) (b := 0) (by omega) (by decide)).mp h77)
              have hR : PN tx ln p = (p + t, none) := by unfold PN; rw [if_neg h45, hd]; dsimp only; rw [if_neg (by omega)]
              refine j_iconst F.1 (0) dX4_readNumber_84 (by decide) ?_
              exact j_zret F (by first | exact Or.inl rfl | exact Or.inr rfl | exact b2_01 _) dX4_readNumber_85 ((by first | exact kp_1 hT hR | exact kp_0 hT hR))
            · have tz : 0 < t := Nat.pos_of_ne_zero (fun z => h77 (by rw [z]; decide))
              have hR : PN tx ln p = (p + t, some (-1 + 1, x, 0, 0, 0)) := by unfold PN; rw [if_neg h45, hd]; dsimp only; rw [if_pos (by omega)]; rfl
              refine j_iconst F.1 (1) dX4_readNumber_80 (by decide) ?_
              refine j_goto F.1 85 dX4_readNumber_81 (by decide) ?_
              exact j_zret F (by first | exact Or.inl rfl | exact Or.inr rfl | exact b2_01 _) dX4_readNumber_85 ((by first | exact kp_1 hT hR | exact kp_0 hT hR))
          · rw [b2_0, Classical.not_not] at h27
            have hx2 : dg tx ln 5 (p) 0 = dg tx ln (5 - (t + 1)) (p + (t + 1)) (x * 10 + chr tx ln (p + t) - 48) := by rw [hx, show 5 - t = (5 - (t + 1)) + 1 by omega, dg_s, if_pos (dig_b.mp h27), Int32.mul_comm]; rfl
            refine j_iload_n F.1 dX4_readNumber_30 rfl ?_
            refine j_bipush F.1 (10) dX4_readNumber_31 (by decide) ?_
            refine j_imul F.1 dX4_readNumber_33 ?_
            refine j_aload_n F.1 dX4_readNumber_34 rfl ?_
            refine j_callVi F (c_character (p := p + t) hT.at hln (by omega)) co_X4_character ml_X4_64 im_X4_character se_X4_character in_X4 rc_X4_character rfl (by decide) (by decide) ⟨by decide, rfl⟩ rfl rfl (Nat.le_of_ble_eq_true rfl) dX4_readNumber_35 ?_
            refine j_iadd F.1 dX4_readNumber_38 ?_
            refine j_bipush F.1 (48) dX4_readNumber_39 (by decide) ?_
            refine j_isub F.1 dX4_readNumber_41 ?_
            refine j_istore_n F.1 dX4_readNumber_42 (by rw [hn]; decide) ?_
            refine j_aload_n F.1 dX4_readNumber_43 rfl ?_
            refine j_dup F.1 dX4_readNumber_44 rfl ?_
            refine j_geti F (k := 2) inX4 rfl (by decide) fl_X4_26 ⟨by decide, rfl⟩ rfl dX4_readNumber_45 ?_
            refine j_iconst F.1 (1) dX4_readNumber_48 (by decide) ?_
            refine j_iadd F.1 dX4_readNumber_49 ?_
            refine j_top (y := nI (p + t + 1)) (by unfold atM; rw [rcu_self, nI_1]) ?_
            refine j_puti F (k := 2) inX4 tyX4_ok nmX4 rfl (by decide) fl_X4_26 rfl rfl ⟨by decide, rfl⟩ rfl dX4_readNumber_50 ?_
            rw [at_s]
            refine j_iinc F.1 (1) dX4_readNumber_53 (by decide) rfl (by rw [hn]; decide) ?_
            refine j_goto F.1 11 dX4_readNumber_56 (by decide) ?_
            refine j_loc [(3, .int (nI (t + 1))), (2, .int (x * 10 + chr tx ln (p + t) - 48)), (1, .int 0), (0, .ref (Y.2.1 3))] (by rw [← nI_1]; rfl) ?_
            exact ih (t + 1) (by omega) (by omega) _ hx2
    refine j_aload_n F.1 dX4_readNumber_0 rfl ?_
    refine j_bipush F.1 (45) dX4_readNumber_1 (by decide) ?_
    refine j_callVi F (c_readSign hT hln (by omega)) co_X4_readSign ml_X4_46 im_X4_readSign se_X4_readSign in_X4 rc_X4_readSign rfl (by decide) (by decide) ⟨by decide, rfl⟩ rfl rfl (Nat.le_of_ble_eq_true rfl) dX4_readNumber_3 ?_
    rw [atB_f (decide_eq_false h45)]
    refine j_top (y := 0) (b2_f h45) ?_
    refine j_istore_n F.1 dX4_readNumber_6 (by rw [hn]; decide) ?_
    refine j_iconst F.1 (0) dX4_readNumber_7 (by decide) ?_
    refine j_istore_n F.1 dX4_readNumber_8 (by rw [hn]; decide) ?_
    refine j_iconst F.1 (0) dX4_readNumber_9 (by decide) ?_
    refine j_istore_n F.1 dX4_readNumber_10 (by rw [hn]; decide) ?_
    refine j_loc [(3, .int (nI (0))), (2, .int (0)), (1, .int 0), (0, .ref (Y.2.1 3))] rfl ?_
    have e := loop 6 0 (by omega) (by omega) 0 rfl
    rw [Nat.add_zero, at_self hT] at e
    exact e
