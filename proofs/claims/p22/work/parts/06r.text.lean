/-! The class: its text. -/
/-- the text that the class has, and where it reads -/
def TX (v : rcM) (tx : Nat → Int32) (ln p : Nat) : Prop := v 3 1 = nI ln ∧ v 3 2 = nI p ∧ ∀ i, i < ln → v 4 i = tx i
def atM (v : rcM) (p : Nat) : rcM := rcu v 3 2 (nI p)
theorem TX.at {v : rcM} {tx : Nat → Int32} {ln p q : Nat} (h : TX v tx ln p) : TX (atM v q) tx ln q := ⟨by unfold atM; rw [rcu_k (by decide)]; exact h.1, by unfold atM; rw [rcu_self], fun i hi => by unfold atM; rw [rcu_ne (by decide)]; exact h.2.2 i hi⟩
/-- what reading keeps -/
def FX (v u : rcM) : Prop := (∀ id, id ≠ 3 → id ≠ 5 → u id = v id) ∧ u 3 1 = v 3 1
theorem FX.rf {v : rcM} : FX v v := ⟨fun _ _ _ => rfl, rfl⟩
theorem FX.tr {u v w : rcM} (a : FX u v) (b : FX v w) : FX u w := ⟨fun id h3 h5 => (b.1 id h3 h5).trans (a.1 id h3 h5), b.2.trans a.2⟩
theorem FX.at {v : rcM} {q : Nat} : FX v (atM v q) := ⟨fun id h3 _ => rcu_ne h3, rcu_k (by decide)⟩
theorem FX.set {v : rcM} {a b c d e : Int32} : FX v (setD v 5 a b c d e) := ⟨fun id _ h5 => setD_n h5, by rw [setD_n (by decide)]⟩
theorem TX.set {v : rcM} {tx : Nat → Int32} {ln p : Nat} {a b c d e : Int32} (h : TX v tx ln p) : TX (setD v 5 a b c d e) tx ln p := ⟨by rw [setD_n (by decide)]; exact h.1, by rw [setD_n (by decide)]; exact h.2.1, fun i hi => by rw [setD_n (by decide)]; exact h.2.2 i hi⟩
theorem at_at {v : rcM} {p q : Nat} : atM (atM v p) q = atM v q := by
  funext b j
  unfold atM rcu
  by_cases h : b = 3 ∧ j = 2
  · rw [if_pos h, if_pos h]
  · rw [if_neg h, if_neg h, if_neg h]
set_option maxHeartbeats 4000000 in
set_option maxRecDepth 100000 in
theorem c_character {Y : rcY} {la : Launch} {v : rcM} {tx : Nat → Int32} {ln p : Nat} (hT : TX v tx ln p) (hln : ln ≤ 60) (hp : p ≤ 90) : rcT shC 139 Y la 0 (yX4_character, cX4_character, 1, (some .int)) [.ref (Y.2.1 3)] (v) (rI (chr tx ln p) v) := by
  refine rcT.of (by decide +kernel) (Nat.le_of_ble_eq_true rfl) (fun X F hn => ?_)
  obtain ⟨t1, t2, t3⟩ := hT
  refine j_aload_n F.1 dX4_character_0 rfl ?_
  refine j_geti F (k := 2) inX4 rfl (by decide) fl_X4_26 ⟨by decide, rfl⟩ rfl dX4_character_1 ?_
  refine j_top t2 ?_
  refine j_if_lt F.1 39 dX4_character_4 (by decide) (fun h4 => ?_) (fun h4 => ?_)
  · exact absurd h4 (nI_pos (n := p) (by omega))
  · refine j_aload_n F.1 dX4_character_7 rfl ?_
    refine j_geti F (k := 2) inX4 rfl (by decide) fl_X4_26 ⟨by decide, rfl⟩ rfl dX4_character_8 ?_
    refine j_top t2 ?_
    refine j_aload_n F.1 dX4_character_11 rfl ?_
    refine j_geti F (k := 1) inX4 rfl (by decide) fl_X4_22 ⟨by decide, rfl⟩ rfl dX4_character_12 ?_
    refine j_top t1 ?_
    refine j_icmp_ge F.1 39 dX4_character_15 (by decide) (fun h15 => ?_) (fun h15 => ?_)
    · have hz : chr tx ln p = -1 := if_neg (fun q => nI_ge (a := p) (b := ln) q (by omega) h15)
      refine j_iconst F.1 (-1) dX4_character_39 (by decide) ?_
      exact j_iret F dX4_character_40 ((rIe hz.symm rfl))
    · have hlt : p < ln := Nat.lt_of_not_le (fun z => h15 (nI_le (a := ln) (b := p) z (by omega)))
      have hz : chr tx ln p = v 4 p := by rw [chr_tx hlt, t3 p hlt]
      refine j_aload_n F.1 dX4_character_18 rfl ?_
      refine j_geti F (k := 2) inX4 rfl (by decide) fl_X4_26 ⟨by decide, rfl⟩ rfl dX4_character_19 ?_
      refine j_top t2 ?_
      refine j_bipush F.1 (60) dX4_character_22 (by decide) ?_
      refine j_icmp_ge F.1 39 dX4_character_24 (by decide) (fun h24 => ?_) (fun h24 => ?_)
      · exact absurd (show nI 60 ≤ nI p from h24) (nI_ge (a := p) (b := 60) (by omega) (by decide))
      · refine j_aload_n F.1 dX4_character_27 rfl ?_
        refine j_getr F (k := 0) inX4 rfl (by decide) fl_X4_9 ⟨by decide, rfl⟩ rfl dX4_character_28 ?_
        refine j_aload_n F.1 dX4_character_31 rfl ?_
        refine j_geti F (k := 2) inX4 rfl (by decide) fl_X4_26 ⟨by decide, rfl⟩ rfl dX4_character_32 ?_
        refine j_cald F ⟨by decide, rfl⟩ t2 (show p < 60 by omega) (by decide) dX4_character_35 ?_
        refine j_goto F.1 40 dX4_character_36 (by decide) ?_
        exact j_iret F dX4_character_40 ((rIe hz.symm rfl))
def LT (c : Int32) : Int32 := if letB c = true then c - 97 else -1
def atB (v : rcM) (p : Nat) (b : Bool) : rcM := if b = true then atM v (p + 1) else v
theorem let_is {c : Int32} : (0 ≤ c - 97 ∧ c - 97 ≤ 9) ↔ letB c = true := by
  unfold letB
  rw [decide_eq_true_iff]
  have e : c - 97 + 97 = c := Int32.sub_add_cancel c 97
  constructor
  · rintro ⟨h1, h2⟩
    obtain ⟨i, hi, q⟩ := cell_of ⟨h1, h2⟩
    rw [q] at e
    have this : ∀ i, i < 10 → 97 ≤ nI i + 97 ∧ nI i + 97 ≤ 106 := by decide +kernel
    rw [← e]
    exact this i hi
  · rintro ⟨h1, h2⟩
    have hb := c.toInt_lt
    have a := Int32.le_iff_toInt_le.mp h1
    have b := Int32.le_iff_toInt_le.mp h2
    have e1 : ((97 : Int32)).toInt = 97 := by decide
    have e2 : ((106 : Int32)).toInt = 106 := by decide
    have e3 : (c - 97).toInt = c.toInt - 97 := by
      rw [Int32.toInt_sub, e1]
      exact Int.bmod_eq_of_le (by omega) (by omega)
    refine ⟨Int32.le_iff_toInt_le.mpr ?_, Int32.le_iff_toInt_le.mpr ?_⟩
    · rw [e3]; show (0 : Int) ≤ _; omega
    · rw [e3]; show _ ≤ (9 : Int); omega
set_option maxHeartbeats 4000000 in
set_option maxRecDepth 100000 in
theorem c_readLetter {Y : rcY} {la : Launch} {v : rcM} {tx : Nat → Int32} {ln p : Nat} (hT : TX v tx ln p) (hln : ln ≤ 60) (hp : p ≤ 90) : rcT shC 139 Y la 2 (yX4_readLetter, cX4_readLetter, 2, (some .int)) [.ref (Y.2.1 3)] (v) (rI (LT (chr tx ln p)) (atB v p (letB (chr tx ln p)))) := by
  refine rcT.of (by decide +kernel) (Nat.le_of_ble_eq_true rfl) (fun X F hn => ?_)
  refine j_aload_n F.1 dX4_readLetter_0 rfl ?_
  refine j_callVi F (c_character hT hln hp) co_X4_character ml_X4_64 im_X4_character se_X4_character in_X4 rc_X4_character rfl (by decide) (by decide) ⟨by decide, rfl⟩ rfl rfl (Nat.le_of_ble_eq_true rfl) dX4_readLetter_1 ?_
  refine j_bipush F.1 (97) dX4_readLetter_4 (by decide) ?_
  refine j_isub F.1 dX4_readLetter_6 ?_
  refine j_istore_n F.1 dX4_readLetter_7 (by rw [hn]; decide) ?_
  refine j_iload_n F.1 dX4_readLetter_8 rfl ?_
  refine j_callSNi F (c_isCell) co_X5_isCell mn_X4_79 st_X5_isCell in_X5 rc_X5_isCell rfl (by decide) (by decide) rfl (Nat.le_of_ble_eq_true rfl) dX4_readLetter_9 ?_
  refine j_if_ne F.1 17 dX4_readLetter_12 (by decide) (fun h12 => ?_) (fun h12 => ?_)
  · rw [b2_0, Classical.not_not] at h12
    have hb := let_is.mp h12
    refine j_aload_n F.1 dX4_readLetter_17 rfl ?_
    refine j_dup F.1 dX4_readLetter_18 rfl ?_
    refine j_geti F (k := 2) inX4 rfl (by decide) fl_X4_26 ⟨by decide, rfl⟩ rfl dX4_readLetter_19 ?_
    refine j_iconst F.1 (1) dX4_readLetter_22 (by decide) ?_
    refine j_iadd F.1 dX4_readLetter_23 ?_
    refine j_top (y := nI (p + 1)) (by rw [hT.2.1, nI_1]) ?_
    refine j_puti F (k := 2) inX4 tyX4_ok nmX4 rfl (by decide) fl_X4_26 rfl rfl ⟨by decide, rfl⟩ rfl dX4_readLetter_24 ?_
    refine j_iload_n F.1 dX4_readLetter_27 rfl ?_
    exact j_iret F dX4_readLetter_28 ((rIe (by unfold LT; rw [if_pos hb]) (by unfold atB atM; rw [if_pos hb])))
  · rw [b2_0] at h12
    refine j_iconst F.1 (-1) dX4_readLetter_15 (by decide) ?_
    exact j_iret F dX4_readLetter_16 ((rIe (by unfold LT; rw [if_neg (fun z => h12 (let_is.mpr z))]) (by unfold atB; rw [if_neg (fun z => h12 (let_is.mpr z))])))
set_option maxHeartbeats 4000000 in
set_option maxRecDepth 100000 in
theorem c_readSign {Y : rcY} {la : Launch} {v : rcM} {tx : Nat → Int32} {ln p : Nat} (hT : TX v tx ln p) (hln : ln ≤ 60) (hp : p ≤ 90) {s : Int32} : rcT shC 139 Y la 1 (yX4_readSign, cX4_readSign, 2, (some .boolean)) [.ref (Y.2.1 3), .int s] (v) (rI (b2 (chr tx ln p = s)) (atB v p (decide (chr tx ln p = s)))) := by
  refine rcT.of (by decide +kernel) (Nat.le_of_ble_eq_true rfl) (fun X F hn => ?_)
  refine j_aload_n F.1 dX4_readSign_0 rfl ?_
  refine j_callVi F (c_character hT hln hp) co_X4_character ml_X4_64 im_X4_character se_X4_character in_X4 rc_X4_character rfl (by decide) (by decide) ⟨by decide, rfl⟩ rfl rfl (Nat.le_of_ble_eq_true rfl) dX4_readSign_1 ?_
  refine j_iload_n F.1 dX4_readSign_4 rfl ?_
  refine j_icmp_eq F.1 10 dX4_readSign_5 (by decide) (fun h5 => ?_) (fun h5 => ?_)
  · refine j_aload_n F.1 dX4_readSign_10 rfl ?_
    refine j_dup F.1 dX4_readSign_11 rfl ?_
    refine j_geti F (k := 2) inX4 rfl (by decide) fl_X4_26 ⟨by decide, rfl⟩ rfl dX4_readSign_12 ?_
    refine j_iconst F.1 (1) dX4_readSign_15 (by decide) ?_
    refine j_iadd F.1 dX4_readSign_16 ?_
    refine j_top (y := nI (p + 1)) (by rw [hT.2.1, nI_1]) ?_
    refine j_puti F (k := 2) inX4 tyX4_ok nmX4 rfl (by decide) fl_X4_26 rfl rfl ⟨by decide, rfl⟩ rfl dX4_readSign_17 ?_
    refine j_iconst F.1 (1) dX4_readSign_20 (by decide) ?_
    exact j_zret F (by first | exact Or.inl rfl | exact Or.inr rfl | exact b2_01 _) dX4_readSign_21 ((rIe (b2_t h5).symm (by unfold atB atM; rw [if_pos (by rw [decide_eq_true_iff]; exact h5)])))
  · refine j_iconst F.1 (0) dX4_readSign_8 (by decide) ?_
    exact j_zret F (by first | exact Or.inl rfl | exact Or.inr rfl | exact b2_01 _) dX4_readSign_9 ((rIe (b2_f h5).symm (by unfold atB; rw [if_neg (by rw [decide_eq_true_iff]; exact h5)])))
theorem kf_v {c : Int32} : (c = 42 → kf c - 1 = 2) ∧ (c = 43 → kf c - 1 = 0) ∧ (c = 45 → kf c - 1 = 1) ∧ (c = 63 → kf c - 1 = 4) ∧ (c = 94 → kf c - 1 = 3) ∧ (¬ c = 42 → ¬ c = 43 → ¬ c = 45 → ¬ c = 63 → ¬ c = 94 → kf c - 1 = -1) := by
  refine ⟨?_, ?_, ?_, ?_, ?_, ?_⟩
  · rintro rfl; rfl
  · rintro rfl; rfl
  · rintro rfl; rfl
  · rintro rfl; rfl
  · rintro rfl; rfl
  · intro a b c d e
    unfold kf
    rw [if_neg b, if_neg c, if_neg a, if_neg e, if_neg d]
    rfl
set_option maxHeartbeats 4000000 in
set_option maxRecDepth 100000 in
theorem c_kindOf {Y : rcY} {la : Launch} {v : rcM} {c : Int32} : rcT shC 139 Y la 0 (yX4_kindOf, cX4_kindOf, 1, (some .int)) [.int c] (v) (rI (kf c - 1) v) := by
  refine rcT.of (by decide +kernel) (Nat.le_of_ble_eq_true rfl) (fun X F hn => ?_)
  refine j_iload_n F.1 dX4_kindOf_0 rfl ?_
  by_cases h1_42 : c = 42
  · refine j_lookup F.1 56 dX4_kindOf_1 (by decide) (by rw [h1_42]) (by decide) ?_
    refine j_iconst F.1 (2) dX4_kindOf_56 (by decide) ?_
    exact j_iret F dX4_kindOf_57 ((rIe (kf_v.1 h1_42).symm rfl))
  by_cases h1_43 : c = 43
  · refine j_lookup F.1 52 dX4_kindOf_1 (by decide) (by rw [h1_43]) (by decide) ?_
    refine j_iconst F.1 (0) dX4_kindOf_52 (by decide) ?_
    exact j_iret F dX4_kindOf_53 ((rIe (kf_v.2.1 h1_43).symm rfl))
  by_cases h1_45 : c = 45
  · refine j_lookup F.1 54 dX4_kindOf_1 (by decide) (by rw [h1_45]) (by decide) ?_
    refine j_iconst F.1 (1) dX4_kindOf_54 (by decide) ?_
    exact j_iret F dX4_kindOf_55 ((rIe (kf_v.2.2.1 h1_45).symm rfl))
  by_cases h1_63 : c = 63
  · refine j_lookup F.1 60 dX4_kindOf_1 (by decide) (by rw [h1_63]) (by decide) ?_
    refine j_iconst F.1 (4) dX4_kindOf_60 (by decide) ?_
    exact j_iret F dX4_kindOf_61 ((rIe (kf_v.2.2.2.1 h1_63).symm rfl))
  by_cases h1_94 : c = 94
  · refine j_lookup F.1 58 dX4_kindOf_1 (by decide) (by rw [h1_94]) (by decide) ?_
    refine j_iconst F.1 (3) dX4_kindOf_58 (by decide) ?_
    exact j_iret F dX4_kindOf_59 ((rIe (kf_v.2.2.2.2.1 h1_94).symm rfl))
  
  refine j_lookup F.1 62 dX4_kindOf_1 (by decide) ((lv_osw (k := 42) (a := 42) h1_42 (by decide)).trans ((lv_osw (k := 43) (a := 43) h1_43 (by decide)).trans ((lv_osw (k := 45) (a := 45) h1_45 (by decide)).trans ((lv_osw (k := 63) (a := 63) h1_63 (by decide)).trans ((lv_osw (k := 94) (a := 94) h1_94 (by decide)).trans ((rfl : _ = (61 : Int)))))))) (by decide) ?_
  refine j_iconst F.1 (-1) dX4_kindOf_62 (by decide) ?_
  exact j_iret F dX4_kindOf_63 ((rIe (kf_v.2.2.2.2.2 h1_42 h1_43 h1_45 h1_63 h1_94).symm rfl))
theorem kf_m1 {c : Int32} : kf c - 1 = -1 ↔ kf c = 0 := by
  constructor
  · intro h
    have e := Int32.sub_add_cancel (kf c) 1
    rw [h] at e
    exact e.symm
  · intro h
    rw [h]
    rfl
set_option maxHeartbeats 4000000 in
set_option maxRecDepth 100000 in
theorem c_readOperator {Y : rcY} {la : Launch} {v : rcM} {tx : Nat → Int32} {ln p : Nat} (hT : TX v tx ln p) (hln : ln ≤ 60) (hp : p ≤ 90) : rcT shC 139 Y la 1 (yX4_readOperator, cX4_readOperator, 2, (some .int)) [.ref (Y.2.1 3)] (v) (rI (kf (chr tx ln p) - 1) (atB v p (decide (¬ kf (chr tx ln p) = 0)))) := by
  refine rcT.of (by decide +kernel) (Nat.le_of_ble_eq_true rfl) (fun X F hn => ?_)
  refine j_aload_n F.1 dX4_readOperator_0 rfl ?_
  refine j_callVi F (c_character hT hln hp) co_X4_character ml_X4_64 im_X4_character se_X4_character in_X4 rc_X4_character rfl (by decide) (by decide) ⟨by decide, rfl⟩ rfl rfl (Nat.le_of_ble_eq_true rfl) dX4_readOperator_1 ?_
  refine j_callSi F (c_kindOf) co_X4_kindOf ml_X4_75 st_X4_kindOf in_X4 rc_X4_kindOf rfl (by decide) (by decide) rfl (Nat.le_of_ble_eq_true rfl) dX4_readOperator_4 ?_
  refine j_istore_n F.1 dX4_readOperator_7 (by rw [hn]; decide) ?_
  refine j_iload_n F.1 dX4_readOperator_8 rfl ?_
  refine j_iconst F.1 (-1) dX4_readOperator_9 (by decide) ?_
  refine j_icmp_eq F.1 23 dX4_readOperator_10 (by decide) (fun h10 => ?_) (fun h10 => ?_)
  · have hk : (decide (¬ kf (chr tx ln p) = 0)) = false := decide_eq_false (fun z => z (kf_m1.mp h10))
    refine j_iload_n F.1 dX4_readOperator_23 rfl ?_
    exact j_iret F dX4_readOperator_24 ((rIe rfl (by rw [hk]; rfl)))
  · have hk : (decide (¬ kf (chr tx ln p) = 0)) = true := decide_eq_true (fun z => h10 (kf_m1.mpr z))
    refine j_aload_n F.1 dX4_readOperator_13 rfl ?_
    refine j_dup F.1 dX4_readOperator_14 rfl ?_
    refine j_geti F (k := 2) inX4 rfl (by decide) fl_X4_26 ⟨by decide, rfl⟩ rfl dX4_readOperator_15 ?_
    refine j_iconst F.1 (1) dX4_readOperator_18 (by decide) ?_
    refine j_iadd F.1 dX4_readOperator_19 ?_
    refine j_top (y := nI (p + 1)) (by rw [hT.2.1, nI_1]) ?_
    refine j_puti F (k := 2) inX4 tyX4_ok nmX4 rfl (by decide) fl_X4_26 rfl rfl ⟨by decide, rfl⟩ rfl dX4_readOperator_20 ?_
    refine j_iload_n F.1 dX4_readOperator_23 rfl ?_
    exact j_iret F dX4_readOperator_24 ((rIe rfl (by rw [hk]; rfl)))
