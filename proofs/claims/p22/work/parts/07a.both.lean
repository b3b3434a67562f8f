/-! Both systems: what each step keeps. -/
def MR (v : rcM) (f p : Nat → Int32) (n : Nat) (tx : Nat → Int32) (ln : Nat) : Prop := v 1 = f ∧ v 3 = p ∧ v 0 3 = nI n ∧ v 4 = tx ∧ v 0 5 = nI ln
theorem KQ.mr {v u : rcM} {f p tx : Nat → Int32} {n ln : Nat} {q : rcS} {r : Option Value} (h : MR v f p n tx ln) (k : KQ v q r u) : r = some (.int q.1) ∧ MR u q.2.1 q.2.2.1 q.2.2.2 tx ln := by
  obtain ⟨k1, k2, k3, k4, k5, k6⟩ := k
  exact ⟨k1, k2, k3, k4, k5.trans h.2.2.2.1, k6.trans h.2.2.2.2⟩
theorem WF_row {f g : Nat → Int32} (h : ∀ k, k < 158 → g k = f k) (w : WF f) : WF g := by
  refine ⟨fun i hi => wfCell_same (fun j hj _ => h _ (by unfold ix; omega)) (w.1 i hi), ?_, ?_⟩
  · rw [h 0 (by decide)]; exact w.2.1
  · rw [h 5 (by decide)]; exact w.2.2
/-- what holds of a state between steps; b bounds the revisions -/
def PI (f p : Nat → Int32) (n ln : Nat) (b : Int) : Prop := (WF f ∧ (f 0).toInt ≤ b) ∧ (∀ j, j < n → WF (rwH p j) ∧ (rwH p j 0).toInt ≤ b) ∧ n ≤ 4 ∧ ln ≤ 60
theorem PI.up {f p : Nat → Int32} {n ln : Nat} {b c : Int} (h : PI f p n ln b) (hb : b ≤ c) : PI f p n ln c :=
  ⟨⟨h.1.1, by have := h.1.2; omega⟩, fun j hj => ⟨(h.2.1 j hj).1, by have := (h.2.1 j hj).2; omega⟩, h.2.2⟩
theorem PI.act {f g p : Nat → Int32} {n ln : Nat} {b c : Int} (h : PI f p n ln b) (hb : b ≤ c) (hg : WF g) (hc : (g 0).toInt ≤ c) : PI g (H_act n f p).1 (H_act n f p).2 ln c := by
  have hf0 := h.1.2
  rcases Nat.lt_or_ge n 4 with hn | hn
  · rw [H_n hn]
    refine ⟨⟨hg, hc⟩, fun j hj => ?_, by show n + 1 ≤ 4; omega, h.2.2.2⟩
    have hj' : j < n + 1 := hj
    by_cases e : j = n
    · subst e
      have er : ∀ k, k < 158 → rwH (put4 158 j f p) j k = f k := fun k hk => by
        unfold rwH put4
        rw [if_pos (by omega)]
        congr 1
        omega
      exact ⟨WF_row er h.1.1, by rw [er 0 (by decide)]; omega⟩
    · have er : ∀ k, k < 158 → rwH (put4 158 n f p) j k = rwH p j k := fun k hk => by
        unfold rwH put4
        rw [if_neg (by omega)]
      have q := h.2.1 j (by omega)
      exact ⟨WF_row er q.1, by rw [er 0 (by decide)]; have := q.2; omega⟩
  · have e4 : n = 4 := by have := h.2.2.1; omega
    subst e4
    rw [H_4]
    refine ⟨⟨hg, hc⟩, fun j hj => ?_, Nat.le_refl 4, h.2.2.2⟩
    have hj' : j < 4 := hj
    by_cases e : j = 3
    · subst e
      have er : ∀ k, k < 158 → rwH (put4 158 3 f (sh4 474 p)) 3 k = f k := fun k hk => by
        unfold rwH put4
        rw [if_pos (by omega), show 158 * 3 + k - 158 * 3 = k by omega]
      exact ⟨WF_row er h.1.1, by rw [er 0 (by decide)]; omega⟩
    · have er : ∀ k, k < 158 → rwH (put4 158 3 f (sh4 474 p)) j k = rwH p (j + 1) k := fun k hk => by
        unfold rwH put4 sh4
        rw [if_neg (by omega), if_pos (by omega)]
        congr 1
        omega
      have q := h.2.1 (j + 1) (by omega)
      exact ⟨WF_row er q.1, by rw [er 0 (by decide)]; have := q.2; omega⟩
/-- a step's outcome keeps it -/
def PIq (q : rcS) (ln : Nat) (b : Int) : Prop := PI q.2.1 q.2.2.1 q.2.2.2 ln b
theorem PIq_act {f g p : Nat → Int32} {n ln : Nat} {b : Int} {a : Int32} (h : PI f p n ln b) (hg : WF g) (hc : (g 0).toInt ≤ b + 61) : PIq (S_act a f g p n) ln (b + 61) := h.act (by omega) hg hc
theorem PIq_no {f p : Nat → Int32} {n ln : Nat} {b : Int} {a : Int32} (h : PI f p n ln b) : PIq (S_no a f p n) ln (b + 61) := h.up (by omega)
theorem trim_wf : ∀ (m : Nat) (f : Nat → Int32), WF f → WF (A_trim m f) ∧ A_trim m f 0 = f 0 := by
  intro m
  induction m with
  | zero => intro f w; exact ⟨w, rfl⟩
  | succ m ih =>
    intro f w
    rw [A_trim_s]
    split
    · have q := ih _ (drop_wf (c := cN (old f 10)) w)
      exact ⟨q.1, by rw [q.2, drop_g (by decide) (by decide)]⟩
    · exact ⟨w, rfl⟩
theorem pi_ask {f p : Nat → Int32} {n ln : Nat} {b : Int} {c : Int32} (h : PI f p n ln b) : PIq (S_ask f p n c) ln (b + 61) := by
  unfold S_ask
  split
  · rename_i hc
    obtain ⟨i, hi, rfl⟩ := cell_of hc
    rw [cN_nI hi]
    cases e : A_look 11 [] f i with
    | none => exact h.up (by omega)
    | some g =>
      have q := (A_look_good 11 _ _ _ _ hi (pre_0 h.1.1) e).1
      have t := trim_wf 10 g (q.2.2.2.2.2.2 h.1.1)
      exact PIq_act h t.1 (by rw [t.2, q.1]; have := h.1.2; omega)
  · exact h.up (by omega)
theorem pi_cost {f p : Nat → Int32} {n ln : Nat} {b : Int} {c w : Int32} (h : PI f p n ln b) : PIq (S_cost f p n c w) ln (b + 61) := by
  unfold S_cost
  split
  · split
    · exact h.up (by omega)
    · exact h.up (by omega)
  · exact h.up (by omega)
theorem pi_forget {f p : Nat → Int32} {n ln : Nat} {b : Int} {c : Int32} (h : PI f p n ln b) : PIq (S_forget f p n c) ln (b + 61) := by
  unfold S_forget
  split
  · split
    · exact h.up (by omega)
    · exact PIq_act h (drop_wf h.1.1) (by rw [drop_g (by decide) (by decide)]; have := h.1.2; omega)
  · exact h.up (by omega)
theorem pi_bound {f p : Nat → Int32} {n ln : Nat} {b : Int} {x : Int32} (h : PI f p n ln b) : PIq (S_bound f p n x) ln (b + 61) := by
  unfold S_bound
  split
  · rename_i hx
    refine PIq_act h ⟨fun i hi => wfCell_same (fun j _ _ => pk_un (ix_g (by decide))) (h.1.1.1 i hi), ?_, ?_⟩ ?_
    · rw [pk_un (by decide)]; exact h.1.1.2.1
    · rw [pk_us]; exact Int32.le_iff_toInt_le.mp hx.1
    · rw [pk_un (by decide)]; have := h.1.2; omega
  · exact h.up (by omega)
theorem pi_remOf {f p : Nat → Int32} {n ln : Nat} {b : Int} {c w : Int32} (h : PI f p n ln b) : PIq (S_remOf f p n c w) ln (b + 61) := by
  unfold S_remOf
  split
  · split
    · exact h.up (by omega)
    · split
      · exact h.up (by omega)
      · exact h.up (by omega)
  · exact h.up (by omega)
theorem pi_no {f p : Nat → Int32} {n ln : Nat} {b : Int} {a : Int32} (h : PI f p n ln b) : PIq (S_no a f p n) ln (b + 61) := h.up (by omega)
theorem pi_undo {f p : Nat → Int32} {n ln : Nat} {b : Int} (h : PI f p n ln b) : PIq (S_undo f p n) ln (b + 61) := by
  unfold S_undo
  split
  · exact h.up (by omega)
  · have q := h.2.1 (n - 1) (by omega)
    refine ⟨⟨q.1, by have := q.2; show (rwH p (n - 1) 0).toInt ≤ _; omega⟩, fun j hj => ?_, ?_, h.2.2.2⟩
    · have hj' : j < n - 1 := hj
      have q := h.2.1 j (by omega)
      exact ⟨q.1, by have := q.2; show (rwH p j 0).toInt ≤ _; omega⟩
    · have := h.2.2.1
      show n - 1 ≤ 4
      omega
theorem pi_def {f p : Nat → Int32} {n ln i : Nat} {b : Int} {k x y z w a : Int32} (h : PI f p n ln b) (hb : b + 61 < 2 ^ 31 - 1) (hi : i < 10) (hd : DV k x y z w) : PIq (S_act a f (A_def f i k x y z w) p n) ln (b + 61) := by
  have q := A_def_wf h.1.1 hi hd (by have := h.1.2; omega)
  exact PIq_act h q.1 (by have := q.2.1; have := h.1.2; omega)
theorem pi_define {f p : Nat → Int32} {n ln : Nat} {b : Int} {c x : Int32} (h : PI f p n ln b) (hb : b + 61 < 2 ^ 31 - 1) : PIq (S_define f p n c x) ln (b + 61) := by
  unfold S_define
  split
  · rename_i hc
    obtain ⟨i, hi, rfl⟩ := cell_of hc.1
    rw [cN_nI hi]
    exact pi_def h hb hi (Or.inl ⟨rfl, val_in hc.2, rfl, rfl, rfl⟩)
  · exact h.up (by omega)
theorem DV_f {k x y z : Int32} (h : (0 ≤ k ∧ k ≤ 4) ∧ (0 ≤ x ∧ x ≤ 9) ∧ (0 ≤ y ∧ y ≤ 9) ∧ (0 ≤ z ∧ z ≤ (if k = 4 then (9 : Int32) else 0))) : DV (k + 1) 0 x y z := by
  obtain ⟨j, hj, rfl⟩ := what_of (n := 4) (w := k) (M := 4) rfl h.1
  have hz : okC z ∧ (¬ nI j + 1 = 5 → z = 0) := by
    by_cases e : nI j = 4
    · have q := h.2.2.2
      rw [if_pos e] at q
      exact ⟨cell_of q, fun z => absurd (by rw [e]; rfl) z⟩
    · have q := (third_0 e).mp h.2.2.2
      exact ⟨by rw [q]; exact okC0, fun _ => q⟩
  exact Or.inr ⟨⟨j + 1, by omega, by omega, nI_1 j⟩, rfl, cell_of h.2.1, cell_of h.2.2.1, hz.1, hz.2⟩
theorem pi_formula {f p : Nat → Int32} {n ln : Nat} {b : Int} {c k x y z : Int32} (h : PI f p n ln b) (hb : b + 61 < 2 ^ 31 - 1) : PIq (S_formula f p n c k x y z) ln (b + 61) := by
  unfold S_formula
  by_cases hc : (0 ≤ c ∧ c ≤ 9) ∧ (0 ≤ k ∧ k ≤ 4) ∧ (0 ≤ x ∧ x ≤ 9) ∧ (0 ≤ y ∧ y ≤ 9) ∧ (0 ≤ z ∧ z ≤ (if k = 4 then (9 : Int32) else 0))
  · rw [if_pos hc]
    obtain ⟨i, hi, rfl⟩ := cell_of hc.1
    rw [cN_nI hi]
    exact pi_def h hb hi (DV_f hc.2)
  · rw [if_neg hc]
    exact PIq_no h
theorem pi_play {f p tx : Nat → Int32} {n ln : Nat} {b : Int} (h : PI f p n ln b) (hb : b + 61 < 2 ^ 31 - 1) : PIq (S_play f p n tx ln) ln (b + 61) := by
  unfold S_play
  split
  · exact h.up (by omega)
  · have q := play_wf (tx := tx) (ln := ln) 61 0 f h.1.1 (by have := h.1.2; omega)
    exact PIq_act h q.1 (by have := q.2.1; have := h.1.2; omega)
theorem pi_type {f p tx : Nat → Int32} {n ln : Nat} {b : Int} {c : Int32} (h : PI f p n ln b) : PI f p n (S_type tx ln c).2.2 (b + 61) := by
  refine ⟨⟨h.1.1, by have := h.1.2; omega⟩, fun j hj => ⟨(h.2.1 j hj).1, by have := (h.2.1 j hj).2; omega⟩, h.2.2.1, ?_⟩
  have := h.2.2.2
  unfold S_type
  split
  · split
    · exact this
    · show ln + 1 ≤ 60; omega
  · exact this
/-- define and formula of the reference, in the form of the others -/
theorem def_KQ {v : rcM} {n i : Nat} {a b c d e : Int32} (hw : WF (v 1)) (hi : i < 10) (hd : DV a b c d e) (hr : (v 1 0).toInt < 2 ^ 31 - 1) : KQ v (S_act (A_def (v 1) i a b c d e 0) (v 1) (A_def (v 1) i a b c d e) (v 3) n) (some (.int (M_defN v n i a b c d e).1)) (M_defN v n i a b c d e).2 := by
  have q := A_def_wf hw hi hd hr
  have k := acted_KM (v := v) (w := rcr (M_beg v) 1 (A_def (v 1) i a b c d e)) (n := n) (f := v 1) (x := A_def (v 1) i a b c d e 0) (pos_gt q.1.2.1) (fun k hk => by unfold M_beg; rw [rcr_n (by decide), rcr_s, cp_lt hk]) (by unfold M_beg; rw [rcr_n (by decide), rcr_n (by decide)]) (by unfold M_beg; rw [rcr_n (by decide), rcr_n (by decide)]) (by unfold M_beg; rw [rcr_n (by decide), rcr_n (by decide)])
  rw [rcr_s] at k
  exact k
theorem define_KQ {v : rcM} {n : Nat} {c x : Int32} {r : Option Value} {u : rcM} (hw : WF (v 1)) (hr : (v 1 0).toInt < 2 ^ 31 - 1) (hn3 : v 0 3 = nI n) (k : rP (M_define v n c x) r u) : KQ v (S_define (v 1) (v 3) n c x) r u := by
  obtain ⟨rfl, rfl⟩ := k
  unfold S_define
  by_cases hc : (0 ≤ c ∧ c ≤ 9) ∧ (-99999 ≤ x ∧ x ≤ 99999)
  · rw [if_pos hc]
    obtain ⟨i, hi, rfl⟩ := cell_of hc.1
    rw [M_define_ok hi hc.2, cN_nI hi]
    exact def_KQ hw hi (Or.inl ⟨rfl, val_in hc.2, rfl, rfl, rfl⟩) hr
  · rw [if_neg hc, show M_define v n c x = (-2000000001, v) from if_neg hc]
    exact KM_no rfl rfl hn3 rfl rfl
theorem formula_KQ {v : rcM} {n : Nat} {c k x y z : Int32} {r : Option Value} {u : rcM} (hw : WF (v 1)) (hr : (v 1 0).toInt < 2 ^ 31 - 1) (hn3 : v 0 3 = nI n) (q : rP (M_formula v n c k x y z) r u) : KQ v (S_formula (v 1) (v 3) n c k x y z) r u := by
  obtain ⟨rfl, rfl⟩ := q
  unfold S_formula
  by_cases hc : (0 ≤ c ∧ c ≤ 9) ∧ (0 ≤ k ∧ k ≤ 4) ∧ (0 ≤ x ∧ x ≤ 9) ∧ (0 ≤ y ∧ y ≤ 9) ∧ (0 ≤ z ∧ z ≤ (if k = 4 then (9 : Int32) else 0))
  · rw [if_pos hc]
    obtain ⟨i, hi, rfl⟩ := cell_of hc.1
    rw [M_formula_ok hi hc.2, cN_nI hi]
    exact def_KQ hw hi (DV_f hc.2) hr
  · rw [if_neg hc, show M_formula v n c k x y z = (-2000000001, v) from if_neg hc]
    exact KM_no rfl rfl hn3 rfl rfl
