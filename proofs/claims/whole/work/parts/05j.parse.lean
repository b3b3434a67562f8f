/-! A definition as a text: where it breaks off, or what it says; the reference reads so. -/
abbrev D5 : Type := Int32 × Int32 × Int32 × Int32 × Int32
def PN (tx : Nat → Int32) (ln p : Nat) : Nat × Option D5 :=
  if chr tx ln p = 45 then (if p + 1 < (dg tx ln 5 (p + 1) 0).1 then ((dg tx ln 5 (p + 1) 0).1, some (0, -(dg tx ln 5 (p + 1) 0).2, 0, 0, 0)) else ((dg tx ln 5 (p + 1) 0).1, none))
  else (if p < (dg tx ln 5 p 0).1 then ((dg tx ln 5 p 0).1, some (0, (dg tx ln 5 p 0).2, 0, 0, 0)) else ((dg tx ln 5 p 0).1, none))
/-- p is the place behind the first letter, x that letter -/
def PF (tx : Nat → Int32) (ln p : Nat) (x : Int32) : Nat × Option D5 :=
  if kf (chr tx ln p) = 0 then (p, none)
  else if letB (chr tx ln (p + 1)) = false then (p + 1, none)
  else if kf (chr tx ln p) = 5 then
    (if chr tx ln (p + 2) = 58 then
      (if letB (chr tx ln (p + 3)) = false then (p + 3, none) else (p + 4, some (5, 0, x - 97, chr tx ln (p + 1) - 97, chr tx ln (p + 3) - 97)))
    else (p + 2, none))
  else (p + 2, some (kf (chr tx ln p), 0, x - 97, chr tx ln (p + 1) - 97, 0))
def PB (tx : Nat → Int32) (ln p : Nat) : Nat × Option D5 := if letB (chr tx ln p) = true then PF tx ln (p + 1) (chr tx ln p) else PN tx ln p
def PR (tx : Nat → Int32) (ln p : Nat) : Nat × Option (Int32 × D5) :=
  if letB (chr tx ln p) = false then (p, none)
  else if chr tx ln (p + 1) = 61 then
    (match PB tx ln (p + 2) with
    | (q, none) => (q, none)
    | (q, some d) => if chr tx ln q = 59 then (q + 1, some (chr tx ln p - 97, d)) else (q, none))
  else (p + 1, none)
theorem tk_f {p : Nat} {t : Bool} : tk (p, false) t = (p, false) := by cases t <;> rfl
theorem tk_tt {p : Nat} : tk (p, true) true = (p + 1, true) := rfl
theorem tk_tf {p : Nat} : tk (p, true) false = (p, false) := rfl
def RF4 (tx : Nat → Int32) (ln : Nat) (s4 : Nat × Bool) (r : Nat → Int32) : (Nat × Bool) × (Nat → Int32) := (tk s4 (letB (chr tx ln s4.1)), upd r 5 (chr tx ln s4.1 - 97))
def RF3 (tx : Nat → Int32) (ln : Nat) (k : Int32) (s3 : Nat × Bool) (r : Nat → Int32) : (Nat × Bool) × (Nat → Int32) := if k = 5 then RF4 tx ln (tk s3 (decide (chr tx ln s3.1 = 58))) r else (s3, r)
def RF2 (tx : Nat → Int32) (ln : Nat) (k : Int32) (s2 : Nat × Bool) (r : Nat → Int32) : (Nat × Bool) × (Nat → Int32) := RF3 tx ln k (tk s2 (letB (chr tx ln s2.1))) (upd r 4 (chr tx ln s2.1 - 97))
def RF1 (tx : Nat → Int32) (ln : Nat) (s1 : Nat × Bool) (r : Nat → Int32) : (Nat × Bool) × (Nat → Int32) := RF2 tx ln (kf (chr tx ln s1.1)) (tk s1 (decide (0 < kf (chr tx ln s1.1)))) (upd r 1 (kf (chr tx ln s1.1)))
theorem RF_1 {tx : Nat → Int32} {ln : Nat} {s : Nat × Bool} {rd : Nat → Int32} : RF tx ln s rd = RF1 tx ln (tk s (letB (chr tx ln s.1))) (upd rd 3 (chr tx ln s.1 - 97)) := rfl
theorem RF3_f {tx : Nat → Int32} {ln p : Nat} {k : Int32} {r : Nat → Int32} : (RF3 tx ln k (p, false) r).1 = (p, false) := by
  unfold RF3
  split
  · rw [tk_f]; unfold RF4; exact tk_f
  · rfl
theorem RF2_f {tx : Nat → Int32} {ln p : Nat} {k : Int32} {r : Nat → Int32} : (RF2 tx ln k (p, false) r).1 = (p, false) := by
  unfold RF2; rw [tk_f]; exact RF3_f
theorem RF1_f {tx : Nat → Int32} {ln p : Nat} {r : Nat → Int32} : (RF1 tx ln (p, false) r).1 = (p, false) := by
  unfold RF1; rw [tk_f]; exact RF2_f
theorem RF_f {tx : Nat → Int32} {ln p : Nat} {rd : Nat → Int32} : (RF tx ln (p, false) rd).1 = (p, false) := by
  rw [RF_1, tk_f]; exact RF1_f
theorem letB_ne {c : Int32} (h : letB c = true) : ¬ c = 45 ∧ digB c = false := by
  unfold letB at h
  have h2 := of_decide_eq_true h
  refine ⟨fun e => ?_, ?_⟩
  · subst e; exact absurd h2.1 (by decide)
  · unfold digB
    refine decide_eq_false (fun q => ?_)
    have a := Int32.le_iff_toInt_le.mp h2.1
    have b := Int32.le_iff_toInt_le.mp q.2
    have e1 : (97 : Int32).toInt = 97 := by decide
    have e2 : (57 : Int32).toInt = 57 := by decide
    omega
theorem kf_pos {c : Int32} : (0 < kf c) ↔ ¬ kf c = 0 := by
  unfold kf
  split
  · decide
  · split
    · decide
    · split
      · decide
      · split
        · decide
        · split <;> decide
/-- what the row of what is read says, where a body was read -/
def rdIs (rd : Nat → Int32) (d : D5) : Prop := rd 1 = d.1 ∧ rd 2 = d.2.1 ∧ rd 3 = d.2.2.1 ∧ rd 4 = d.2.2.2.1 ∧ rd 5 = d.2.2.2.2
theorem RF_PF {tx : Nat → Int32} {ln p : Nat} {rd : Nat → Int32} (hl : letB (chr tx ln p) = true) (h0 : rd 2 = 0) (h5 : rd 5 = 0) :
    match PF tx ln (p + 1) (chr tx ln p) with
    | (q, none) => (RF tx ln (p, true) rd).1 = (q, false)
    | (q, some d) => (RF tx ln (p, true) rd).1 = (q, true) ∧ rdIs (RF tx ln (p, true) rd).2 d := by
  rw [show RF tx ln (p, true) rd = RF1 tx ln (p + 1, true) (upd rd 3 (chr tx ln p - 97)) from by
    rw [RF_1]
    show RF1 tx ln (tk (p, true) (letB (chr tx ln p))) _ = _
    rw [hl]; rfl]
  unfold PF
  by_cases hk : kf (chr tx ln (p + 1)) = 0
  · rw [if_pos hk]
    show (RF2 tx ln (kf (chr tx ln (p + 1))) (tk (p + 1, true) (decide (0 < kf (chr tx ln (p + 1))))) _).1 = _
    rw [show decide (0 < kf (chr tx ln (p + 1))) = false from decide_eq_false (fun q => kf_pos.mp q hk), tk_tf]
    exact RF2_f
  · rw [if_neg hk]
    rw [show RF1 tx ln (p + 1, true) (upd rd 3 (chr tx ln p - 97)) = RF2 tx ln (kf (chr tx ln (p + 1))) (p + 2, true) (upd (upd rd 3 (chr tx ln p - 97)) 1 (kf (chr tx ln (p + 1)))) from by
      show RF2 tx ln (kf (chr tx ln (p + 1))) (tk (p + 1, true) (decide (0 < kf (chr tx ln (p + 1))))) _ = _
      rw [show decide (0 < kf (chr tx ln (p + 1))) = true from decide_eq_true (kf_pos.mpr hk)]; rfl]
    by_cases h2 : letB (chr tx ln (p + 1 + 1)) = false
    · rw [if_pos h2]
      show (RF3 tx ln (kf (chr tx ln (p + 1))) (tk (p + 2, true) (letB (chr tx ln (p + 2)))) _).1 = _
      rw [show letB (chr tx ln (p + 2)) = false from h2, tk_tf]
      exact RF3_f
    · rw [if_neg h2]
      have h2t : letB (chr tx ln (p + 2)) = true := by
        cases e : letB (chr tx ln (p + 2)) with
        | true => rfl
        | false => exact absurd e h2
      rw [show RF2 tx ln (kf (chr tx ln (p + 1))) (p + 2, true) (upd (upd rd 3 (chr tx ln p - 97)) 1 (kf (chr tx ln (p + 1)))) = RF3 tx ln (kf (chr tx ln (p + 1))) (p + 3, true) (upd (upd (upd rd 3 (chr tx ln p - 97)) 1 (kf (chr tx ln (p + 1)))) 4 (chr tx ln (p + 2) - 97)) from by
        show RF3 tx ln (kf (chr tx ln (p + 1))) (tk (p + 2, true) (letB (chr tx ln (p + 2)))) _ = _
        rw [h2t]; rfl]
      unfold RF3
      by_cases h5' : kf (chr tx ln (p + 1)) = 5
      · rw [if_pos h5', if_pos h5']
        by_cases h58 : chr tx ln (p + 1 + 2) = 58
        · rw [if_pos h58]
          rw [show tk (p + 3, true) (decide (chr tx ln (p + 3, true).1 = 58)) = (p + 4, true) from by
            rw [show decide (chr tx ln (p + 3, true).1 = 58) = true from decide_eq_true h58]; rfl]
          by_cases h3 : letB (chr tx ln (p + 1 + 3)) = false
          · rw [if_pos h3]
            show tk (p + 4, true) (letB (chr tx ln (p + 4))) = _
            rw [show letB (chr tx ln (p + 4)) = false from h3]; rfl
          · rw [if_neg h3]
            have h3t : letB (chr tx ln (p + 4)) = true := by
              cases e : letB (chr tx ln (p + 4)) with
              | true => rfl
              | false => exact absurd e h3
            refine ⟨?_, ?_, ?_, ?_, ?_, ?_⟩
            · show tk (p + 4, true) (letB (chr tx ln (p + 4))) = _
              rw [h3t]; rfl
            · exact h5'
            · exact h0
            · rfl
            · rfl
            · rfl
        · rw [if_neg h58]
          show tk (tk (p + 3, true) (decide (chr tx ln (p + 3) = 58))) _ = _
          rw [show decide (chr tx ln (p + 3) = 58) = false from decide_eq_false h58, tk_tf, tk_f]
      · rw [if_neg h5', if_neg h5']
        exact ⟨rfl, rfl, h0, rfl, rfl, h5⟩
theorem RB_PB {tx : Nat → Int32} {ln p : Nat} {rd : Nat → Int32} (h : ∀ k, 1 ≤ k → k < 6 → rd k = 0) :
    match PB tx ln p with
    | (q, none) => (RB tx ln (p, true) rd).1 = (q, false)
    | (q, some d) => (RB tx ln (p, true) rd).1 = (q, true) ∧ rdIs (RB tx ln (p, true) rd).2 d := by
  unfold RB PB
  cases hl : letB (chr tx ln p) with
  | true =>
    have hn := letB_ne hl
    rw [if_pos rfl, if_neg (fun q => q.2.elim hn.1 (fun z => by rw [hn.2] at z; cases z))]
    exact RF_PF hl (h 2 (by decide) (by decide)) (h 5 (by decide) (by decide))
  | false =>
    rw [if_neg (by decide)]
    by_cases h45 : chr tx ln p = 45
    · rw [if_pos ⟨rfl, Or.inl h45⟩]
      unfold PN RN
      rw [if_pos h45, if_pos h45]
      by_cases hq : p + 1 < (dg tx ln 5 (p + 1) 0).1
      · rw [if_pos hq]
        refine ⟨?_, ?_, ?_, ?_, ?_, ?_⟩
        · show ((dg tx ln 5 (p + 1) 0).1, decide (0 < (dg tx ln 5 (p + 1) 0).1 - (p + 1))) = _
          rw [decide_eq_true (by omega)]
        · simp only [upd]; exact h 1 (by decide) (by decide)
        · rfl
        · simp only [upd]; exact h 3 (by decide) (by decide)
        · simp only [upd]; exact h 4 (by decide) (by decide)
        · simp only [upd]; exact h 5 (by decide) (by decide)
      · rw [if_neg hq]
        show ((dg tx ln 5 (p + 1) 0).1, decide (0 < (dg tx ln 5 (p + 1) 0).1 - (p + 1))) = _
        rw [decide_eq_false (by omega)]
    · cases hd : digB (chr tx ln p) with
      | true =>
        rw [if_pos ⟨rfl, Or.inr rfl⟩]
        unfold PN RN
        rw [if_neg h45, if_neg h45]
        by_cases hq : p < (dg tx ln 5 p 0).1
        · rw [if_pos hq]
          refine ⟨?_, ?_, ?_, ?_, ?_, ?_⟩
          · show ((dg tx ln 5 p 0).1, decide (0 < (dg tx ln 5 p 0).1 - p)) = _
            rw [decide_eq_true (by omega)]
          · simp only [upd]; exact h 1 (by decide) (by decide)
          · rfl
          · simp only [upd]; exact h 3 (by decide) (by decide)
          · simp only [upd]; exact h 4 (by decide) (by decide)
          · simp only [upd]; exact h 5 (by decide) (by decide)
        · rw [if_neg hq]
          show ((dg tx ln 5 p 0).1, decide (0 < (dg tx ln 5 p 0).1 - p)) = _
          rw [decide_eq_false (by omega)]
      | false =>
        rw [if_neg (fun q => q.2.elim h45 (fun z => by cases z))]
        unfold PN
        have e : dg tx ln 5 p 0 = (p, 0) := by rw [dg_s, if_neg (by rw [hd]; decide)]
        rw [if_neg h45, e, if_neg (Nat.lt_irrefl p)]
        rw [RF_1]
        show (RF1 tx ln (tk (p, true) (letB (chr tx ln p))) _).1 = _
        rw [hl, tk_tf]
        exact RF1_f
theorem RD_PR {tx : Nat → Int32} {ln p : Nat} {rd : Nat → Int32} :
    match PR tx ln p with
    | (q, none) => (RD tx ln p rd).1 = (q, false)
    | (q, some d) => (RD tx ln p rd).1 = (q, true) ∧ (RD tx ln p rd).2 0 = d.1 ∧ rdIs (RD tx ln p rd).2 d.2 := by
  unfold PR
  cases hl : letB (chr tx ln p) with
  | false =>
    rw [if_pos rfl]
    have e : RB tx ln (p, false) (upd (zs 6 rd) 0 (chr tx ln p - 97)) = RF tx ln (p, false) (upd (zs 6 rd) 0 (chr tx ln p - 97)) := if_neg (fun q => by cases q.1)
    have e2 : (RB tx ln (p, false) (upd (zs 6 rd) 0 (chr tx ln p - 97))).1 = (p, false) := by rw [e, RF_f]
    show (RD tx ln p rd).1 = _
    unfold RD
    rw [hl]
    show tk (RB tx ln (tk (p, false) _) _).1 _ = _
    rw [tk_f, e2, tk_f]
  | true =>
    rw [if_neg (by decide)]
    have eR : RD tx ln p rd = (tk (RB tx ln (tk (p + 1, true) (decide (chr tx ln (p + 1) = 61))) (upd (zs 6 rd) 0 (chr tx ln p - 97))).1 (decide (chr tx ln (RB tx ln (tk (p + 1, true) (decide (chr tx ln (p + 1) = 61))) (upd (zs 6 rd) 0 (chr tx ln p - 97))).1.1 = 59)), (RB tx ln (tk (p + 1, true) (decide (chr tx ln (p + 1) = 61))) (upd (zs 6 rd) 0 (chr tx ln p - 97))).2) := by
      unfold RD
      rw [hl]
      rfl
    rw [eR]
    by_cases h61 : chr tx ln (p + 1) = 61
    · rw [if_pos h61, show decide (chr tx ln (p + 1) = 61) = true from decide_eq_true h61, tk_tt]
      have hb := RB_PB (tx := tx) (ln := ln) (p := p + 2) (rd := upd (zs 6 rd) 0 (chr tx ln p - 97)) (fun k h1 h2 => by
        unfold upd zs
        rw [if_neg (by omega), if_pos ⟨h1, h2⟩])
      have h00 : ∀ s r, (RB tx ln s r).2 0 = r 0 := fun s r => by
        unfold RB RN RF
        split
        · split <;> rfl
        · dsimp only
          split <;> rfl
      generalize hp : PB tx ln (p + 2) = pb at hb ⊢
      obtain ⟨q, od⟩ := pb
      cases od with
      | none =>
        dsimp only at hb ⊢
        show tk (RB tx ln (p + 2, true) _).1 _ = _
        rw [hb, tk_f]
      | some d =>
        dsimp only at hb ⊢
        by_cases h59 : chr tx ln q = 59
        · rw [if_pos h59]
          refine ⟨?_, ?_, hb.2⟩
          · show tk (RB tx ln (p + 2, true) _).1 (decide (chr tx ln (RB tx ln (p + 2, true) _).1.1 = 59)) = _
            rw [hb.1]
            show tk (q, true) (decide (chr tx ln q = 59)) = _
            rw [decide_eq_true h59, tk_tt]
          · show (RB tx ln (p + 2, true) _).2 0 = _
            rw [h00]
            rfl
        · rw [if_neg h59]
          show tk (RB tx ln (p + 2, true) _).1 (decide (chr tx ln (RB tx ln (p + 2, true) _).1.1 = 59)) = _
          rw [hb.1]
          show tk (q, true) (decide (chr tx ln q = 59)) = _
          rw [decide_eq_false h59, tk_tf]
    · rw [if_neg h61, show decide (chr tx ln (p + 1) = 61) = false from decide_eq_false h61, tk_tf]
      have e : RB tx ln (p + 1, false) (upd (zs 6 rd) 0 (chr tx ln p - 97)) = RF tx ln (p + 1, false) (upd (zs 6 rd) 0 (chr tx ln p - 97)) := if_neg (fun q => by cases q.1)
      have e2 : (RB tx ln (p + 1, false) (upd (zs 6 rd) 0 (chr tx ln p - 97))).1 = (p + 1, false) := by rw [e, RF_f]
      show tk (RB tx ln (p + 1, false) _).1 _ = _
      rw [e2, tk_f]
