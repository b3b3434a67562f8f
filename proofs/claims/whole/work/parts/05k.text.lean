/-! The reference: faults of the text, play, type, clearText. -/
theorem PN_ge {tx : Nat → Int32} {ln p : Nat} : p ≤ (PN tx ln p).1 := by
  unfold PN
  split
  · have := (dg_ge (tx := tx) (ln := ln) 5 (p + 1) 0).1
    split <;> (dsimp only; omega)
  · have := (dg_ge (tx := tx) (ln := ln) 5 p 0).1
    split <;> (dsimp only; omega)
theorem PB_ge {tx : Nat → Int32} {ln p : Nat} : p ≤ (PB tx ln p).1 := by
  unfold PB
  split
  · unfold PF
    repeat' split
    all_goals (dsimp only; omega)
  · exact PN_ge
theorem PR_gt {tx : Nat → Int32} {ln p q : Nat} {d : Int32 × D5} (h : PR tx ln p = (q, some d)) : p < q ∧ q ≤ ln := by
  unfold PR at h
  split at h
  · cases h
  · split at h
    · have hb := PB_ge (tx := tx) (ln := ln) (p := p + 2)
      generalize PB tx ln (p + 2) = pb at h hb
      obtain ⟨q', od⟩ := pb
      cases od with
      | none => cases h
      | some d' =>
        dsimp only at h hb
        split at h
        · rename_i h59
          cases h
          have := chr_lt (tx := tx) (ln := ln) (p := q') (by rw [h59]; decide)
          omega
        · cases h
    · cases h
/-- the first fault of the text from p on, and where it breaks off -/
def brk (tx : Nat → Int32) (ln : Nat) : Nat → Nat → Option (Nat × Nat)
  | 0, _ => none
  | n + 1, p => if p < ln then (match PR tx ln p with | (q, none) => some (p, q) | (q, some _) => brk tx ln n q) else none
theorem brk_s {tx : Nat → Int32} {ln n p : Nat} : brk tx ln (n + 1) p = if p < ln then (match PR tx ln p with | (q, none) => some (p, q) | (q, some _) => brk tx ln n q) else none := rfl
/-- what reading leaves -/
def FrT (v u : rcM) : Prop := (∀ id, id ≠ 0 → id ≠ 12 → u id = v id) ∧ ∀ j, j ≠ 15 → j ≠ 16 → u 0 j = v 0 j
theorem FrT.rf {v : rcM} : FrT v v := ⟨fun _ _ _ => rfl, fun _ _ _ => rfl⟩
theorem FrT.tm {v : rcM} {p : Nat} {o : Bool} {rd : Nat → Int32} : FrT v (TM v p o rd) := ⟨fun id h0 h12 => by funext j; unfold TM; rw [if_neg h0, if_neg h12], fun j h15 h16 => by unfold TM; rw [if_pos rfl, if_neg h15, if_neg h16]⟩
theorem FrT.KQ {v u : rcM} {a : Int32} {n : Nat} (fr : FrT v u) (hn : v 0 3 = nI n) : KQ v (S_no a (v 1) (v 3) n) (some (.int a)) u :=
  KM_no (fr.1 1 (by decide) (by decide)) (fr.1 3 (by decide) (by decide)) (by rw [fr.2 3 (by decide) (by decide)]; exact hn) (fr.1 4 (by decide) (by decide)) (fr.2 5 (by decide) (by decide))
theorem mapIdx_congr {α β : Type} {f g : Nat → α → β} {l : List α} (h : ∀ k a, l[k]? = some a → f k a = g k a) : l.mapIdx f = l.mapIdx g := by
  apply List.ext_getElem?
  intro i
  rw [List.getElem?_mapIdx, List.getElem?_mapIdx]
  cases e : l[i]? with
  | none => rfl
  | some a => rw [Option.map_some, Option.map_some, h i a e]
theorem form_w {Y : rcY} {v : rcM} : rcw shM 13 Y (rcu v 0 16 (rcb (v 0 16))) = rcw shM 13 Y v := by
  unfold rcw
  refine List.map_congr_left (fun id _ => ?_)
  by_cases e : id = 0
  · subst e
    rw [rce_obj (sh := shM) rfl, rce_obj (sh := shM) rfl]
    have : (List.mapIdx (fun k kd => rcv Y (rcu v 0 16 (rcb (v 0 16))) 0 k kd) [3, 4, 5, 0, 6, 0, 7, 8, 9, 10, 0, 1, 11, 12, 13, 0, 1, 14]) = List.mapIdx (fun k kd => rcv Y v 0 k kd) [3, 4, 5, 0, 6, 0, 7, 8, 9, 10, 0, 1, 11, 12, 13, 0, 1, 14] := by
      refine mapIdx_congr (fun k a h => ?_)
      by_cases e : k = 16
      · subst e
        have ha : a = 1 := (Option.some.inj h).symm
        subst ha
        show Value.int (rcb (rcu v 0 16 (rcb (v 0 16)) 0 16)) = Value.int (rcb (v 0 16))
        rw [rcu_self, rcb_b]
      · match a with
        | 0 => show Value.int (rcu v 0 16 (rcb (v 0 16)) 0 k) = Value.int (v 0 k); rw [rcu_k e]
        | 1 => show Value.int (rcb (rcu v 0 16 (rcb (v 0 16)) 0 k)) = Value.int (rcb (v 0 k)); rw [rcu_k e]
        | j + 2 => rfl
    rw [this]
  · rw [rce_ne (v := v) (rcu_ne e)]
theorem j_form {Y : rcY} {X : rcX} {K : Option Value → rcM → Prop} {pc : Nat} {l : List (Nat × Value)} {st : List Value} {v : rcM} (k : rcJ shM 13 Y X K pc l st (rcu v 0 16 (rcb (v 0 16)))) : rcJ shM 13 Y X K pc l st v :=
  fun H locs ls hl hw hS => k H locs ls hl (by unfold rcW; rw [form_w]; exact hw) hS
theorem rcb_B (x : Int32) : ∃ o : Bool, rcb x = bI o := by
  rcases rcb_01 x with h | h
  · exact ⟨false, h⟩
  · exact ⟨true, h⟩
theorem to_TM {v : rcM} : ∃ o : Bool, rcu (rcu v 0 16 (rcb (v 0 16))) 0 15 0 = TM v 0 o (v 12) := by
  obtain ⟨o, ho⟩ := rcb_B (v 0 16)
  refine ⟨o, ?_⟩
  rw [ho]
  funext id j
  unfold rcu TM
  by_cases h : id = 0
  · subst h
    by_cases h2 : j = 15
    · subst h2; rfl
    · by_cases h3 : j = 16
      · subst h3; simp
      · simp [h2, h3]
  · by_cases h2 : id = 12
    · subst h2; simp
    · simp [h, h2]
def KB (v : rcM) (ln : Nat) : Option Value → rcM → Prop := fun r u => FrT v u ∧ match brk (v 4) ln 61 0 with
  | none => r = some (.int (-1))
  | some q => r = some (.int (nI q.1)) ∧ u 0 15 = nI q.2 ∧ q.1 < ln
set_option maxHeartbeats 4000000 in
set_option maxRecDepth 100000 in
theorem k_brokenAt {Y : rcY} {la : Launch} {v : rcM} {ln : Nat} (hl : v 0 5 = nI ln) (hln : ln ≤ 60) : rcT shM 13 Y la 4 (yX6_brokenAt, cX6_brokenAt, 2, (some .int)) [.ref (Y.2.1 0)] (v) (KB v ln) := by
  refine rcT.of (by decide +kernel) (Nat.le_of_ble_eq_true rfl) (fun X F hn => ?_)
  have loop : ∀ (n p : Nat) (o : Bool) (rd : Nat → Int32), 61 ≤ n + p → p ≤ 60 → brk (v 4) ln 61 0 = brk (v 4) ln n p → rcJ shM 13 Y X (KB v ln) 5 [(0, .ref (Y.2.1 0))] [] (TM v p o rd) := by
    intro n
    induction n with
    | zero => intro p o rd h1 h2; omega
    | succ n ih =>
      intro p o rd h1 h2 hb
      refine j_aload_n F.1 dX6_brokenAt_5 rfl ?_
      refine j_geti F (k := 15) inX6 rfl (by decide) fl_X6_173 ⟨by decide, rfl⟩ rfl dX6_brokenAt_6 ?_
      refine j_top (y := nI p) rfl ?_
      refine j_aload_n F.1 dX6_brokenAt_9 rfl ?_
      refine j_geti F (k := 5) inX6 rfl (by decide) fl_X6_170 ⟨by decide, rfl⟩ rfl dX6_brokenAt_10 ?_
      refine j_top (y := nI ln) hl ?_
      refine j_icmp_ge F.1 33 dX6_brokenAt_13 (by decide) (fun h13 => ?_) (fun h13 => ?_)
      · have q : ¬ p < ln := fun z => nI_ge z (by omega) h13
        refine j_iconst F.1 (-1) dX6_brokenAt_33 (by decide) ?_
        exact j_iret F dX6_brokenAt_34 ((by unfold KB; rw [hb, brk_s, if_neg q]; exact ⟨FrT.tm, rfl⟩))
      · have q : p < ln := by
          rcases Nat.lt_or_ge p ln with z | z
          · exact z
          · exact absurd (nI_le z (by omega)) h13
        refine j_aload_n F.1 dX6_brokenAt_16 rfl ?_
        refine j_geti F (k := 15) inX6 rfl (by decide) fl_X6_173 ⟨by decide, rfl⟩ rfl dX6_brokenAt_17 ?_
        refine j_top (y := nI p) rfl ?_
        refine j_istore_n F.1 dX6_brokenAt_20 (by rw [hn]; decide) ?_
        refine j_aload_n F.1 dX6_brokenAt_21 rfl ?_
        refine j_callVi F (k_reads hl hln (by omega)) co_X6_reads ml_X6_198 im_X6_reads se_X6_reads in_X6 rc_X6_reads rfl (by decide) (by decide) ⟨by decide, rfl⟩ rfl rfl (Nat.le_of_ble_eq_true rfl) dX6_brokenAt_22 ?_
        have hr := RD_PR (tx := v 4) (ln := ln) (p := p) (rd := rd)
        have hgt := fun q d => PR_gt (tx := v 4) (ln := ln) (p := p) (q := q) (d := d)
        cases ep : PR (v 4) ln p with
        | mk q2 od =>
          rw [ep] at hr hgt
          cases od with
          | none =>
            dsimp only at hr
            rw [hr]
            refine j_top (y := 0) rfl ?_
            refine j_if_ne F.1 30 dX6_brokenAt_25 (by decide) (fun h25 => False.elim (by revert h25; decide)) (fun _ => ?_)
            refine j_iload_n F.1 dX6_brokenAt_28 rfl ?_
            exact j_iret F dX6_brokenAt_29 ((by unfold KB; rw [hb, brk_s, if_pos q, ep]; exact ⟨FrT.tm, rfl, rfl, q⟩))
          | some d =>
            dsimp only at hr
            rw [hr.1]
            have hg2 := hgt q2 d rfl
            refine j_top (y := 1) rfl ?_
            refine j_if_ne F.1 30 dX6_brokenAt_25 (by decide) (fun _ => ?_) (fun h25 => False.elim (by revert h25; decide))
            refine j_goto F.1 5 dX6_brokenAt_30 (by decide) ?_
            refine j_loc [(0, .ref (Y.2.1 0))] rfl ?_
            exact ih q2 true _ (by omega) (by omega) (by rw [hb, brk_s, if_pos q, ep])
  obtain ⟨o, ho⟩ := to_TM (v := v)
  have e0 : rcu (rcu v 0 16 (rcb (v 0 16))) 0 15 0 = rcu (rcu v 0 16 (rcb (v 0 16))) 0 15 0 := rfl
  refine j_form ?_
  refine j_aload_n F.1 dX6_brokenAt_0 rfl ?_
  refine j_iconst F.1 (0) dX6_brokenAt_1 (by decide) ?_
  refine j_puti F (k := 15) inX6 tyX6_ok nmX6 rfl (by decide) fl_X6_173 rfl rfl ⟨by decide, rfl⟩ rfl dX6_brokenAt_2 ?_
  refine j_loc [(0, .ref (Y.2.1 0))] rfl ?_
  have e := loop 61 0 o (v 12) (by decide) (by decide) rfl
  rw [← ho] at e
  exact e
def S_fault (tx : Nat → Int32) (ln : Nat) (w : Int32) : Int32 := if 0 ≤ w ∧ w ≤ 1 then (match brk tx ln 61 0 with
  | none => -2000000004
  | some q => if w = 0 then nI q.1 else nI q.2 - nI q.1) else -2000000001
set_option maxHeartbeats 4000000 in
set_option maxRecDepth 100000 in
theorem k_fault {Y : rcY} {la : Launch} {v : rcM} {w : Int32} {n : Nat} (hn3 : v 0 3 = nI n) {ln : Nat} (hl : v 0 5 = nI ln) (hln : ln ≤ 60) : rcT shM 13 Y la 5 (yX6_fault, cX6_fault, 3, (some .int)) [.ref (Y.2.1 0), .int w] (v) (KQ v (S_no (S_fault (v 4) ln w) (v 1) (v 3) n)) := by
  refine rcT.of (by decide +kernel) (Nat.le_of_ble_eq_true rfl) (fun X F hn => ?_)
  refine j_iload_n F.1 dX6_fault_0 rfl ?_
  refine j_iconst F.1 (0) dX6_fault_1 (by decide) ?_
  refine j_iconst F.1 (1) dX6_fault_2 (by decide) ?_
  refine j_callSi F (k_in) co_X6_in ml_X6_46 st_X6_in in_X6 rc_X6_in rfl (by decide) (by decide) rfl (Nat.le_of_ble_eq_true rfl) dX6_fault_3 ?_
  refine j_if_ne F.1 12 dX6_fault_6 (by decide) (fun h6 => ?_) (fun h6 => ?_)
  · rw [b2_0, Classical.not_not] at h6
    refine j_aload_n F.1 dX6_fault_12 rfl ?_
    refine j_callV F (k_brokenAt hl hln) co_X6_brokenAt ml_X6_202 im_X6_brokenAt se_X6_brokenAt in_X6 rc_X6_brokenAt rfl (by decide) (by decide) ⟨by decide, rfl⟩ rfl rfl (Nat.le_of_ble_eq_true rfl) dX6_fault_13 (fun r u hr => ?_)
    obtain ⟨fr, hr⟩ := hr
    cases eb : brk (v 4) ln 61 0 with
    | none =>
      rw [eb] at hr
      subst hr
      refine j_tl ?_
      refine j_istore_n F.1 dX6_fault_16 (by rw [hn]; decide) ?_
      refine j_iload_n F.1 dX6_fault_17 rfl ?_
      refine j_if_ge F.1 26 dX6_fault_18 (by decide) (fun h18 => False.elim (by revert h18; decide)) (fun _ => ?_)
      refine j_ldc F cn_X6_87 dX6_fault_21 ?_
      refine j_goto F.1 40 dX6_fault_23 (by decide) ?_
      exact j_iret F dX6_fault_40 ((by unfold S_fault; rw [if_pos h6, eb]; exact fr.KQ hn3))
    | some q =>
      rw [eb] at hr
      obtain ⟨rfl, h15, hq⟩ := hr
      refine j_tl ?_
      refine j_istore_n F.1 dX6_fault_16 (by rw [hn]; decide) ?_
      refine j_iload_n F.1 dX6_fault_17 rfl ?_
      refine j_if_ge F.1 26 dX6_fault_18 (by decide) (fun h18 => ?_) (fun h18 => ?_)
      · refine j_iload_n F.1 dX6_fault_26 rfl ?_
        refine j_if_ne F.1 34 dX6_fault_27 (by decide) (fun h27 => ?_) (fun h27 => ?_)
        · refine j_aload_n F.1 dX6_fault_34 rfl ?_
          refine j_geti F (k := 15) inX6 rfl (by decide) fl_X6_173 ⟨by decide, rfl⟩ rfl dX6_fault_35 ?_
          refine j_top h15 ?_
          refine j_iload_n F.1 dX6_fault_38 rfl ?_
          refine j_isub F.1 dX6_fault_39 ?_
          exact j_iret F dX6_fault_40 ((by unfold S_fault; rw [if_pos h6, eb]; dsimp only; first | (rw [if_pos h27]; exact fr.KQ hn3) | (rw [if_neg h27]; exact fr.KQ hn3)))
        · refine j_iload_n F.1 dX6_fault_30 rfl ?_
          refine j_goto F.1 40 dX6_fault_31 (by decide) ?_
          exact j_iret F dX6_fault_40 ((by unfold S_fault; rw [if_pos h6, eb]; dsimp only; first | (rw [if_pos h27]; exact fr.KQ hn3) | (rw [if_neg h27]; exact fr.KQ hn3)))
      · exact absurd (nI_pos' (by omega)) h18
  · rw [b2_0] at h6
    refine j_ldc F cn_X6_50 dX6_fault_9 ?_
    exact j_iret F dX6_fault_11 ((by unfold S_fault; rw [if_neg h6]; exact FrT.rf.KQ hn3))
/-- all of a state, behind a call -/
def KZ (a : Int32) (f p : Nat → Int32) (n : Nat) (tx : Nat → Int32) (ln : Nat) : Option Value → rcM → Prop := fun r u => r = some (.int a) ∧ u 1 = f ∧ u 3 = p ∧ u 0 3 = nI n ∧ u 4 = tx ∧ u 0 5 = nI ln
def S_type (tx : Nat → Int32) (ln : Nat) (c : Int32) : Int32 × (Nat → Int32) × Nat := if 32 ≤ c ∧ c ≤ 126 then (if ln = 60 then (-2000000003, tx, ln) else (nI (ln + 1), upd tx ln c, ln + 1)) else (-2000000001, tx, ln)
set_option maxHeartbeats 4000000 in
set_option maxRecDepth 100000 in
theorem k_type {Y : rcY} {la : Launch} {v : rcM} {c : Int32} {n : Nat} (hn3 : v 0 3 = nI n) {ln : Nat} (hl : v 0 5 = nI ln) (hln : ln ≤ 60) : rcT shM 13 Y la 1 (yX6_type, cX6_type, 2, (some .int)) [.ref (Y.2.1 0), .int c] (v) (KZ (S_type (v 4) ln c).1 (v 1) (v 3) n (S_type (v 4) ln c).2.1 (S_type (v 4) ln c).2.2) := by
  refine rcT.of (by decide +kernel) (Nat.le_of_ble_eq_true rfl) (fun X F hn => ?_)
  refine j_iload_n F.1 dX6_type_0 rfl ?_
  refine j_bipush F.1 (32) dX6_type_1 (by decide) ?_
  refine j_bipush F.1 (126) dX6_type_3 (by decide) ?_
  refine j_callSi F (k_in) co_X6_in ml_X6_46 st_X6_in in_X6 rc_X6_in rfl (by decide) (by decide) rfl (Nat.le_of_ble_eq_true rfl) dX6_type_5 ?_
  refine j_if_ne F.1 14 dX6_type_8 (by decide) (fun h8 => ?_) (fun h8 => ?_)
  · rw [b2_0, Classical.not_not] at h8
    refine j_aload_n F.1 dX6_type_14 rfl ?_
    refine j_geti F (k := 5) inX6 rfl (by decide) fl_X6_170 ⟨by decide, rfl⟩ rfl dX6_type_15 ?_
    refine j_top hl ?_
    refine j_bipush F.1 (60) dX6_type_18 (by decide) ?_
    refine j_icmp_ne F.1 26 dX6_type_20 (by decide) (fun h20 => ?_) (fun h20 => ?_)
    · have q : ¬ ln = 60 := fun z => h20 (by rw [z]; rfl)
      refine j_aload_n F.1 dX6_type_26 rfl ?_
      refine j_getr F (k := 4) inX6 rfl (by decide) fl_X6_19 ⟨by decide, rfl⟩ rfl dX6_type_27 ?_
      refine j_aload_n F.1 dX6_type_30 rfl ?_
      refine j_geti F (k := 5) inX6 rfl (by decide) fl_X6_170 ⟨by decide, rfl⟩ rfl dX6_type_31 ?_
      refine j_iload_n F.1 dX6_type_34 rfl ?_
      refine j_iast F ⟨by decide, rfl⟩ hl (by omega) (by decide) dX6_type_35 ?_
      refine j_aload_n F.1 dX6_type_36 rfl ?_
      refine j_dup F.1 dX6_type_37 rfl ?_
      refine j_geti F (k := 5) inX6 rfl (by decide) fl_X6_170 ⟨by decide, rfl⟩ rfl dX6_type_38 ?_
      refine j_iconst F.1 (1) dX6_type_41 (by decide) ?_
      refine j_iadd F.1 dX6_type_42 ?_
      refine j_top (y := nI (ln + 1)) (by rw [rcu_ne (by decide), hl, nI_1]) ?_
      refine j_puti F (k := 5) inX6 tyX6_ok nmX6 rfl (by decide) fl_X6_170 rfl rfl ⟨by decide, rfl⟩ rfl dX6_type_43 ?_
      refine j_aload_n F.1 dX6_type_46 rfl ?_
      refine j_geti F (k := 5) inX6 rfl (by decide) fl_X6_170 ⟨by decide, rfl⟩ rfl dX6_type_47 ?_
      exact j_iret F dX6_type_50 ((by unfold S_type; rw [if_pos h8, if_neg q, rcu_self]; refine ⟨rfl, ?_, ?_, ?_, ?_, rcu_self⟩ <;> first | (rw [rcu_ne (by decide), rcu_ne (by decide)]; done) | (rw [rcu_k (by decide), rcu_ne (by decide)]; exact hn3) | (rw [rcu_ne (by decide), rcu_row])))
    · have q : ln = 60 := (nI_eq (by omega) (by decide)).mp h20
      refine j_ldc F cn_X6_162 dX6_type_23 ?_
      exact j_iret F dX6_type_25 ((by unfold S_type; rw [if_pos h8, if_pos q]; exact ⟨rfl, rfl, rfl, hn3, rfl, hl⟩))
  · rw [b2_0] at h8
    refine j_ldc F cn_X6_50 dX6_type_11 ?_
    exact j_iret F dX6_type_13 ((by unfold S_type; rw [if_neg h8]; exact ⟨rfl, rfl, rfl, hn3, rfl, hl⟩))
set_option maxHeartbeats 4000000 in
set_option maxRecDepth 100000 in
theorem k_clearText {Y : rcY} {la : Launch} {v : rcM} {n : Nat} (hn3 : v 0 3 = nI n) {ln : Nat} (hl : v 0 5 = nI ln) (hln : ln ≤ 60) : rcT shM 13 Y la 0 (yX6_clearText, cX6_clearText, 2, (some .int)) [.ref (Y.2.1 0)] (v) (KZ (nI ln) (v 1) (v 3) n (v 4) 0) := by
  refine rcT.of (by decide +kernel) (Nat.le_of_ble_eq_true rfl) (fun X F hn => ?_)
  refine j_aload_n F.1 dX6_clearText_0 rfl ?_
  refine j_geti F (k := 5) inX6 rfl (by decide) fl_X6_170 ⟨by decide, rfl⟩ rfl dX6_clearText_1 ?_
  refine j_top hl ?_
  refine j_istore_n F.1 dX6_clearText_4 (by rw [hn]; decide) ?_
  refine j_aload_n F.1 dX6_clearText_5 rfl ?_
  refine j_iconst F.1 (0) dX6_clearText_6 (by decide) ?_
  refine j_puti F (k := 5) inX6 tyX6_ok nmX6 rfl (by decide) fl_X6_170 rfl rfl ⟨by decide, rfl⟩ rfl dX6_clearText_7 ?_
  refine j_iload_n F.1 dX6_clearText_10 rfl ?_
  exact j_iret F dX6_clearText_11 ((by refine ⟨rfl, ?_, ?_, ?_, ?_, rcu_self⟩ <;> first | (rw [rcu_ne (by decide)]; done) | (rw [rcu_k (by decide)]; exact hn3)))
