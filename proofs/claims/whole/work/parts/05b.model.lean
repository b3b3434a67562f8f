/-! The reference: ask, cost, forget, bound, rememberedOf, count, undo. -/
theorem arrV_congr {cA : ClassId} {N : Nat} {f g : Nat → Value} (h : ∀ j, j < N → f j = g j) : arrV cA N f = arrV cA N g := by
  unfold arrV
  have e : (fun j : Fin N => f j.val) = fun j : Fin N => g j.val := funext (fun j => h j.val j.isLt)
  rw [e]
theorem wd_row {Y : rcY} {v : rcM} {H : Heap} {f : Nat → Int32} (h : ∀ k, k < 158 → f k = v 1 k) (hw : rcW shM 13 Y v H) : rcW shM 13 Y (rcr v 1 f) H := by
  intro k q hq
  obtain ⟨hlt, rfl⟩ := rcw_lt hq
  have h0 := hw k _ (rcw_at hlt)
  by_cases e : k = 1
  · subst e
    rw [rce_arr (sh := shM) (t := 0) (n := 158) rfl] at h0 ⊢
    show H[Y.2.1 1]? = some (arrV (Y.1 1) 158 (fun j => .int (rcr v 1 f 1 j)))
    have h1 : H[Y.2.1 1]? = some (arrV (Y.1 1) 158 (fun j => .int (v 1 j))) := h0
    rw [h1, rcr_s]
    exact congrArg some (arrV_congr (fun j hj => by rw [h j hj]))
  · rw [rce_ne (v := v) (v' := rcr v 1 f) (rcr_n e)]
    exact h0
theorem j_row {Y : rcY} {X : rcX} {K : Option Value → rcM → Prop} {pc : Nat} {l : List (Nat × Value)} {st : List Value} {v : rcM} (f : Nat → Int32) (h : ∀ k, k < 158 → f k = v 1 k) (k : rcJ shM 13 Y X K pc l st (rcr v 1 f)) : rcJ shM 13 Y X K pc l st v :=
  fun H locs ls hl hw hS => k H locs ls hl (wd_row h hw) hS
theorem j_tl {σ : Type} {X : rcX} {Wd : σ → Heap → Prop} {A : Nat → Prop} {Q : State → Prop} {pc : Nat} {l : List (Nat × Value)} {st : List Value} {v : σ} {x : Value} (k : rcG X Wd A Q pc l (x :: st) v) : rcG X Wd A Q pc l ((some x).toList ++ st) v := k
/-- an answer, the state's row, the history's row and the number of states in it, behind a call; the text stays -/
def KM (v : rcM) (a : Int32) (f p : Nat → Int32) (n : Nat) : Option Value → rcM → Prop := fun r u => r = some (.int a) ∧ u 1 = f ∧ u 3 = p ∧ u 0 3 = nI n ∧ u 4 = v 4 ∧ u 0 5 = v 0 5
abbrev rcS : Type := Int32 × (Nat → Int32) × (Nat → Int32) × Nat
def KQ (v : rcM) (q : rcS) : Option Value → rcM → Prop := KM v q.1 q.2.1 q.2.2.1 q.2.2.2
def H_act (n : Nat) (b p : Nat → Int32) : (Nat → Int32) × Nat := if n = 4 then (put4 158 3 b (sh4 474 p), 4) else (put4 158 n b p, n + 1)
/-- a change: g is the new state, f the one before -/
def S_act (a : Int32) (f g p : Nat → Int32) (n : Nat) : rcS := (a, g, (H_act n f p).1, (H_act n f p).2)
def S_no (a : Int32) (f p : Nat → Int32) (n : Nat) : rcS := (a, f, p, n)
theorem put4_b {t m : Nat} {b b' p : Nat → Int32} (h : ∀ k, k < t → b k = b' k) : put4 t m b p = put4 t m b' p := by
  funext k
  unfold put4
  by_cases e : 158 * m ≤ k ∧ k < 158 * m + t
  · rw [if_pos e, if_pos e]
    exact h _ (by omega)
  · rw [if_neg e, if_neg e]
theorem H_act_b {n : Nat} {b b' p : Nat → Int32} (h : ∀ k, k < 158 → b k = b' k) : H_act n b p = H_act n b' p := by
  unfold H_act
  rw [put4_b h, put4_b h]
/-- what acted() leaves -/
theorem acted_KM {v w : rcM} {x : Int32} {n : Nat} {f : Nat → Int32} (hx : ¬ x ≤ -2000000001) (h2 : ∀ k, k < 158 → w 2 k = f k) (h3 : w 3 = v 3) (h4 : w 4 = v 4) (h5 : w 0 5 = v 0 5) : KQ v (S_act x f (w 1) (v 3) n) (some (.int x)) (M_acted n x w) := by
  unfold M_acted M_act
  rw [if_neg hx]
  unfold KQ KM S_act H_act
  by_cases e : n = 4
  · rw [if_pos e, if_pos e]
    unfold M_act1 M_act0
    refine ⟨rfl, ?_, ?_, ?_, ?_, ?_⟩
    · rw [rcu_ne (by decide), rcr_n (by decide), rcu_ne (by decide), rcr_n (by decide)]
    · rw [rcu_ne (by decide), rcr_s, rcu_ne (by decide), rcr_n (by decide), rcu_ne (by decide), rcr_s, h3]
      exact put4_b h2
    · rw [rcu_self]
    · rw [rcu_ne (by decide), rcr_n (by decide), rcu_ne (by decide), rcr_n (by decide)]; exact h4
    · rw [rcu_k (by decide), rcr_n (by decide), rcu_k (by decide), rcr_n (by decide)]; exact h5
  · rw [if_neg e, if_neg e]
    unfold M_act1
    refine ⟨rfl, ?_, ?_, ?_, ?_, ?_⟩
    · rw [rcu_ne (by decide), rcr_n (by decide)]
    · rw [rcu_ne (by decide), rcr_s, h3]
      exact put4_b h2
    · rw [rcu_self]
    · rw [rcu_ne (by decide), rcr_n (by decide)]; exact h4
    · rw [rcu_k (by decide), rcr_n (by decide)]; exact h5
theorem cp_lt {n k : Nat} {f g : Nat → Int32} (h : k < n) : cp n f g k = f k := if_pos h
theorem pos_gt {x : Int32} (h : 0 ≤ x.toInt) : ¬ x ≤ -2000000001 := by
  rw [Int32.le_iff_toInt_le]
  have e : (-2000000001 : Int32).toInt = -2000000001 := by decide
  rw [e]
  omega
def S_ask (f p : Nat → Int32) (n : Nat) (c : Int32) : rcS := if 0 ≤ c ∧ c ≤ 9 then (match A_look 11 [] f (cN c) with
  | none => S_no (-2000000002) f p n
  | some g => S_act (A_ans g (cN c)) f (A_trim 10 g) p n) else S_no (-2000000001) f p n
def S_cost (f p : Nat → Int32) (n : Nat) (c w : Int32) : rcS := if (0 ≤ c ∧ c ≤ 9) ∧ (0 ≤ w ∧ w ≤ 2) then (match A_look 11 [] f (cN c) with
  | none => S_no (-2000000002) f p n
  | some g => S_no (g (1 + cN w) - f (1 + cN w)) f p n) else S_no (-2000000001) f p n
def S_forget (f p : Nat → Int32) (n : Nat) (c : Int32) : rcS := if 0 ≤ c ∧ c ≤ 9 then (if f (ix (cN c) 6) = 0 then S_no (-2000000002) f p n else S_act (remI (A_drop f (cN c)) 10) f (A_drop f (cN c)) p n) else S_no (-2000000001) f p n
def S_bound (f p : Nat → Int32) (n : Nat) (b : Int32) : rcS := if 0 ≤ b ∧ b ≤ 10 then S_act (f 5) f (upd f 5 b) p n else S_no (-2000000001) f p n
theorem KM_no {v u : rcM} {a : Int32} {n : Nat} (h1 : u 1 = v 1) (h3 : u 3 = v 3) (hn : u 0 3 = nI n) (h4 : u 4 = v 4) (h5 : u 0 5 = v 0 5) : KQ v (S_no a (v 1) (v 3) n) (some (.int a)) u := ⟨rfl, h1, h3, hn, h4, h5⟩
theorem okA_gt {x : Int32} (h : okA x) : ¬ x ≤ -2000000001 := by
  rw [Int32.le_iff_toInt_le]
  rcases h with rfl | h
  · decide
  · have e : (-2000000001 : Int32).toInt = -2000000001 := by decide
    rw [e]
    omega
set_option maxHeartbeats 4000000 in
set_option maxRecDepth 100000 in
theorem k_ask {Y : rcY} {la : Launch} {v : rcM} {c : Int32} {n : Nat} (hn4 : n ≤ 4) (hn3 : v 0 3 = nI n) (hw : WF (v 1)) : rcT shM 13 Y la 5 (yX6_ask, cX6_ask, 3, (some .int)) [.ref (Y.2.1 0), .int c] (v) (KQ v (S_ask (v 1) (v 3) n c)) := by
  refine rcT.of (by decide +kernel) (Nat.le_of_ble_eq_true rfl) (fun X F hn => ?_)
  refine j_iload_n F.1 dX6_ask_0 rfl ?_
  refine j_callSi F (k_isCell) co_X6_isCell ml_X6_69 st_X6_isCell in_X6 rc_X6_isCell rfl (by decide) (by decide) rfl (Nat.le_of_ble_eq_true rfl) dX6_ask_1 ?_
  refine j_if_ne F.1 10 dX6_ask_4 (by decide) (fun h4 => ?_) (fun h4 => ?_)
  · rw [b2_0, Classical.not_not] at h4
    obtain ⟨i, hi, rfl⟩ := cell_of h4
    refine j_aload_n F.1 dX6_ask_10 rfl ?_
    refine j_callVv F (k_begins) co_X6_begins ml_X6_76 im_X6_begins se_X6_begins in_X6 rc_X6_begins rfl (by decide) (by decide) ⟨by decide, rfl⟩ rfl rfl (Nat.le_of_ble_eq_true rfl) dX6_ask_11 ?_
    refine j_aload_n F.1 dX6_ask_14 rfl ?_
    refine j_iload_n F.1 dX6_ask_15 rfl ?_
    refine j_callV F (k_looks hi (by rw [rcr_n (by decide)]; exact hw)) co_X6_looks ml_X6_140 im_X6_looks se_X6_looks in_X6 rc_X6_looks rfl (by decide) (by decide) ⟨by decide, rfl⟩ rfl rfl (Nat.le_of_ble_eq_true rfl) dX6_ask_16 (fun r u hr => ?_)
    unfold KL at hr
    rw [rcr_n (show (1 : Nat) ≠ 2 by decide)] at hr
    cases ea : A_look 11 [] (v 1) i with
    | none =>
      rw [ea] at hr
      obtain ⟨rfl, fr⟩ := hr
      refine j_tl ?_
      have u2 : ∀ k, k < 158 → u 2 k = v 1 k := fun k hk => by rw [fr.1 2 (by decide) (by decide) (by decide) (by decide) (by decide) (by decide), rcr_s, cp_lt hk]
      have u3 : u 3 = v 3 := by rw [fr.1 3 (by decide) (by decide) (by decide) (by decide) (by decide) (by decide), rcr_n (by decide)]
      have u4 : u 4 = v 4 := by rw [fr.1 4 (by decide) (by decide) (by decide) (by decide) (by decide) (by decide), rcr_n (by decide)]
      have un : u 0 3 = nI n := by rw [fr.2 3 (by decide) (by decide), rcr_n (by decide)]; exact hn3
      have u5 : u 0 5 = v 0 5 := by rw [fr.2 5 (by decide) (by decide), rcr_n (by decide)]
      refine j_if_ne F.1 29 dX6_ask_19 (by decide) (fun h19 => False.elim (by revert h19; decide)) (fun _ => ?_)
      refine j_aload_n F.1 dX6_ask_22 rfl ?_
      refine j_callVv F (k_returns) co_X6_returns ml_X6_143 im_X6_returns se_X6_returns in_X6 rc_X6_returns rfl (by decide) (by decide) ⟨by decide, rfl⟩ rfl rfl (Nat.le_of_ble_eq_true rfl) dX6_ask_23 ?_
      refine j_row (v 1) (fun k hk => by rw [rcr_s, cp_lt hk]; exact (u2 k hk).symm) ?_
      rw [rcr_rcr]
      refine j_ldc F cn_X6_146 dX6_ask_26 ?_
      exact j_iret F dX6_ask_28 ((by unfold S_ask; rw [if_pos (nI_in9 hi), cN_nI hi, ea]; exact KM_no rcr_s (by rw [rcr_n (by decide)]; exact u3) (by rw [rcr_n (by decide)]; exact un) (by rw [rcr_n (by decide)]; exact u4) (by rw [rcr_n (by decide)]; exact u5)))
    | some g =>
      rw [ea] at hr
      obtain ⟨rfl, hg, fr⟩ := hr
      refine j_tl ?_
      have u2 : ∀ k, k < 158 → u 2 k = v 1 k := fun k hk => by rw [fr.1 2 (by decide) (by decide) (by decide) (by decide) (by decide) (by decide), rcr_s, cp_lt hk]
      have u3 : u 3 = v 3 := by rw [fr.1 3 (by decide) (by decide) (by decide) (by decide) (by decide) (by decide), rcr_n (by decide)]
      have u4 : u 4 = v 4 := by rw [fr.1 4 (by decide) (by decide) (by decide) (by decide) (by decide) (by decide), rcr_n (by decide)]
      have un : u 0 3 = nI n := by rw [fr.2 3 (by decide) (by decide), rcr_n (by decide)]; exact hn3
      have u5 : u 0 5 = v 0 5 := by rw [fr.2 5 (by decide) (by decide), rcr_n (by decide)]
      have gg := A_look_good 11 [] (v 1) i g hi ⟨hw, fun o ho => by cases ho⟩ ea
      have gw : WF g := gg.1.2.2.2.2.2.2 hw
      have gfr : Fr g i := gg.2
      refine j_if_ne F.1 29 dX6_ask_19 (by decide) (fun _ => ?_) (fun h19 => False.elim (by revert h19; decide))
      refine j_aload_n F.1 dX6_ask_29 rfl ?_
      refine j_iload_n F.1 dX6_ask_30 rfl ?_
      refine j_callVi F (k_answerOf hi) co_X6_answerOf ml_X6_117 im_X6_answerOf se_X6_answerOf in_X6 rc_X6_answerOf rfl (by decide) (by decide) ⟨by decide, rfl⟩ rfl rfl (Nat.le_of_ble_eq_true rfl) dX6_ask_31 ?_
      refine j_istore_n F.1 dX6_ask_34 (by rw [hn]; decide) ?_
      refine j_aload_n F.1 dX6_ask_35 rfl ?_
      refine j_callVv F (k_trims (by rw [hg]; exact gw)) co_X6_trims ml_X6_147 im_X6_trims se_X6_trims in_X6 rc_X6_trims rfl (by decide) (by decide) ⟨by decide, rfl⟩ rfl rfl (Nat.le_of_ble_eq_true rfl) dX6_ask_36 ?_
      refine j_aload_n F.1 dX6_ask_39 rfl ?_
      refine j_iload_n F.1 dX6_ask_40 rfl ?_
      refine j_callVi F (k_acted hn4 (by rw [rcr_n (by decide)]; exact un)) co_X6_acted ml_X6_83 im_X6_acted se_X6_acted in_X6 rc_X6_acted rfl (by decide) (by decide) ⟨by decide, rfl⟩ rfl rfl (Nat.le_of_ble_eq_true rfl) dX6_ask_41 ?_
      exact j_iret F dX6_ask_44 ((by unfold S_ask; rw [if_pos (nI_in9 hi), cN_nI hi, ea, hg]; have q := acted_KM (v := v) (w := rcr u 1 (A_trim 10 g)) (n := n) (f := v 1) (okA_gt (ans_ok gw hi gfr)) (fun k hk => by rw [rcr_n (by decide)]; exact u2 k hk) (by rw [rcr_n (by decide)]; exact u3) (by rw [rcr_n (by decide)]; exact u4) (by rw [rcr_n (by decide)]; exact u5); rw [rcr_s] at q; exact q))
  · rw [b2_0] at h4
    refine j_ldc F cn_X6_50 dX6_ask_7 ?_
    exact j_iret F dX6_ask_9 ((by unfold S_ask; rw [if_neg h4]; exact KM_no rfl rfl hn3 rfl rfl))
set_option maxHeartbeats 4000000 in
set_option maxRecDepth 100000 in
theorem k_cost {Y : rcY} {la : Launch} {v : rcM} {c w : Int32} {n : Nat} (hn4 : n ≤ 4) (hn3 : v 0 3 = nI n) (hw : WF (v 1)) : rcT shM 13 Y la 5 (yX6_cost, cX6_cost, 5, (some .int)) [.ref (Y.2.1 0), .int c, .int w] (v) (KQ v (S_cost (v 1) (v 3) n c w)) := by
  refine rcT.of (by decide +kernel) (Nat.le_of_ble_eq_true rfl) (fun X F hn => ?_)
  refine j_iload_n F.1 dX6_cost_0 rfl ?_
  refine j_callSi F (k_isCell) co_X6_isCell ml_X6_69 st_X6_isCell in_X6 rc_X6_isCell rfl (by decide) (by decide) rfl (Nat.le_of_ble_eq_true rfl) dX6_cost_1 ?_
  refine j_if_eq F.1 16 dX6_cost_4 (by decide) (fun h4 => ?_) (fun h4 => ?_)
  · rw [b2_0] at h4
    refine j_ldc F cn_X6_50 dX6_cost_16 ?_
    exact j_iret F dX6_cost_18 ((by unfold S_cost; rw [if_neg (fun z => by first | exact h4 z.1 | exact h13 z.2)]; exact KM_no rfl rfl hn3 rfl rfl))
  · rw [b2_0, Classical.not_not] at h4
    obtain ⟨i, hi, rfl⟩ := cell_of h4
    refine j_iload_n F.1 dX6_cost_7 rfl ?_
    refine j_iconst F.1 (0) dX6_cost_8 (by decide) ?_
    refine j_iconst F.1 (2) dX6_cost_9 (by decide) ?_
    refine j_callSi F (k_in) co_X6_in ml_X6_46 st_X6_in in_X6 rc_X6_in rfl (by decide) (by decide) rfl (Nat.le_of_ble_eq_true rfl) dX6_cost_10 ?_
    refine j_if_ne F.1 19 dX6_cost_13 (by decide) (fun h13 => ?_) (fun h13 => ?_)
    · rw [b2_0, Classical.not_not] at h13
      obtain ⟨j, hj, rfl⟩ := what_of (n := 2) rfl h13
      refine j_aload_n F.1 dX6_cost_19 rfl ?_
      refine j_callVv F (k_begins) co_X6_begins ml_X6_76 im_X6_begins se_X6_begins in_X6 rc_X6_begins rfl (by decide) (by decide) ⟨by decide, rfl⟩ rfl rfl (Nat.le_of_ble_eq_true rfl) dX6_cost_20 ?_
      refine j_aload_n F.1 dX6_cost_23 rfl ?_
      refine j_iload_n F.1 dX6_cost_24 rfl ?_
      refine j_callV F (k_looks hi (by rw [rcr_n (by decide)]; exact hw)) co_X6_looks ml_X6_140 im_X6_looks se_X6_looks in_X6 rc_X6_looks rfl (by decide) (by decide) ⟨by decide, rfl⟩ rfl rfl (Nat.le_of_ble_eq_true rfl) dX6_cost_25 (fun r u hr => ?_)
      unfold KL at hr
      rw [rcr_n (show (1 : Nat) ≠ 2 by decide)] at hr
      cases ea : A_look 11 [] (v 1) i with
      | none =>
        rw [ea] at hr
        obtain ⟨rfl, fr⟩ := hr
        refine j_tl ?_
        have u2 : ∀ k, k < 158 → u 2 k = v 1 k := fun k hk => by rw [fr.1 2 (by decide) (by decide) (by decide) (by decide) (by decide) (by decide), rcr_s, cp_lt hk]
        have u3 : u 3 = v 3 := by rw [fr.1 3 (by decide) (by decide) (by decide) (by decide) (by decide) (by decide), rcr_n (by decide)]
        have u4 : u 4 = v 4 := by rw [fr.1 4 (by decide) (by decide) (by decide) (by decide) (by decide) (by decide), rcr_n (by decide)]
        have un : u 0 3 = nI n := by rw [fr.2 3 (by decide) (by decide), rcr_n (by decide)]; exact hn3
        have u5 : u 0 5 = v 0 5 := by rw [fr.2 5 (by decide) (by decide), rcr_n (by decide)]
        refine j_istore_n F.1 dX6_cost_28 (by rw [hn]; decide) ?_
        refine j_aload_n F.1 dX6_cost_29 rfl ?_
        refine j_getr F (k := 0) inX6 rfl (by decide) fl_X6_7 ⟨by decide, rfl⟩ rfl dX6_cost_30 ?_
        refine j_iconst F.1 (1) dX6_cost_33 (by decide) ?_
        refine j_iload_n F.1 dX6_cost_34 rfl ?_
        refine j_iadd F.1 dX6_cost_35 ?_
        refine j_iald F ⟨by decide, rfl⟩ (by rw [show (1 : Int32) = nI 1 from rfl, nI_add]) (by omega) (by decide) dX6_cost_36 ?_
        refine j_aload_n F.1 dX6_cost_37 rfl ?_
        refine j_getr F (k := 1) inX6 rfl (by decide) fl_X6_13 ⟨by decide, rfl⟩ rfl dX6_cost_38 ?_
        refine j_iconst F.1 (1) dX6_cost_41 (by decide) ?_
        refine j_iload_n F.1 dX6_cost_42 rfl ?_
        refine j_iadd F.1 dX6_cost_43 ?_
        refine j_iald F ⟨by decide, rfl⟩ (by rw [show (1 : Int32) = nI 1 from rfl, nI_add]) (by omega) (by decide) dX6_cost_44 ?_
        refine j_isub F.1 dX6_cost_45 ?_
        refine j_istore F.1 dX6_cost_46 (by rw [hn]; decide) ?_
        refine j_aload_n F.1 dX6_cost_48 rfl ?_
        refine j_callVv F (k_returns) co_X6_returns ml_X6_143 im_X6_returns se_X6_returns in_X6 rc_X6_returns rfl (by decide) (by decide) ⟨by decide, rfl⟩ rfl rfl (Nat.le_of_ble_eq_true rfl) dX6_cost_49 ?_
        refine j_row (v 1) (fun k hk => by rw [rcr_s, cp_lt hk]; exact (u2 k hk).symm) ?_
        rw [rcr_rcr]
        refine j_iload_n F.1 dX6_cost_52 rfl ?_
        refine j_if_eq F.1 61 dX6_cost_53 (by decide) (fun _ => ?_) (fun h53 => False.elim (by revert h53; decide))
        refine j_ldc F cn_X6_146 dX6_cost_61 ?_
        exact j_iret F dX6_cost_63 ((by unfold S_cost; rw [if_pos ⟨nI_in9 hi, h13⟩, cN_nI hi, cN_nI (show j < 10 by omega), ea]; exact KM_no rcr_s (by rw [rcr_n (by decide)]; exact u3) (by rw [rcr_n (by decide)]; exact un) (by rw [rcr_n (by decide)]; exact u4) (by rw [rcr_n (by decide)]; exact u5)))
      | some g =>
        rw [ea] at hr
        obtain ⟨rfl, hg, fr⟩ := hr
        refine j_tl ?_
        have u2 : ∀ k, k < 158 → u 2 k = v 1 k := fun k hk => by rw [fr.1 2 (by decide) (by decide) (by decide) (by decide) (by decide) (by decide), rcr_s, cp_lt hk]
        have u3 : u 3 = v 3 := by rw [fr.1 3 (by decide) (by decide) (by decide) (by decide) (by decide) (by decide), rcr_n (by decide)]
        have u4 : u 4 = v 4 := by rw [fr.1 4 (by decide) (by decide) (by decide) (by decide) (by decide) (by decide), rcr_n (by decide)]
        have un : u 0 3 = nI n := by rw [fr.2 3 (by decide) (by decide), rcr_n (by decide)]; exact hn3
        have u5 : u 0 5 = v 0 5 := by rw [fr.2 5 (by decide) (by decide), rcr_n (by decide)]
        refine j_istore_n F.1 dX6_cost_28 (by rw [hn]; decide) ?_
        refine j_aload_n F.1 dX6_cost_29 rfl ?_
        refine j_getr F (k := 0) inX6 rfl (by decide) fl_X6_7 ⟨by decide, rfl⟩ rfl dX6_cost_30 ?_
        refine j_iconst F.1 (1) dX6_cost_33 (by decide) ?_
        refine j_iload_n F.1 dX6_cost_34 rfl ?_
        refine j_iadd F.1 dX6_cost_35 ?_
        refine j_iald F ⟨by decide, rfl⟩ (by rw [show (1 : Int32) = nI 1 from rfl, nI_add]) (by omega) (by decide) dX6_cost_36 ?_
        refine j_aload_n F.1 dX6_cost_37 rfl ?_
        refine j_getr F (k := 1) inX6 rfl (by decide) fl_X6_13 ⟨by decide, rfl⟩ rfl dX6_cost_38 ?_
        refine j_iconst F.1 (1) dX6_cost_41 (by decide) ?_
        refine j_iload_n F.1 dX6_cost_42 rfl ?_
        refine j_iadd F.1 dX6_cost_43 ?_
        refine j_iald F ⟨by decide, rfl⟩ (by rw [show (1 : Int32) = nI 1 from rfl, nI_add]) (by omega) (by decide) dX6_cost_44 ?_
        refine j_isub F.1 dX6_cost_45 ?_
        refine j_istore F.1 dX6_cost_46 (by rw [hn]; decide) ?_
        refine j_aload_n F.1 dX6_cost_48 rfl ?_
        refine j_callVv F (k_returns) co_X6_returns ml_X6_143 im_X6_returns se_X6_returns in_X6 rc_X6_returns rfl (by decide) (by decide) ⟨by decide, rfl⟩ rfl rfl (Nat.le_of_ble_eq_true rfl) dX6_cost_49 ?_
        refine j_row (v 1) (fun k hk => by rw [rcr_s, cp_lt hk]; exact (u2 k hk).symm) ?_
        rw [rcr_rcr]
        refine j_iload_n F.1 dX6_cost_52 rfl ?_
        refine j_if_eq F.1 61 dX6_cost_53 (by decide) (fun h53 => False.elim (by revert h53; decide)) (fun _ => ?_)
        refine j_iload F.1 dX6_cost_56 rfl ?_
        refine j_goto F.1 63 dX6_cost_58 (by decide) ?_
        exact j_iret F dX6_cost_63 ((by unfold S_cost; rw [if_pos ⟨nI_in9 hi, h13⟩, cN_nI hi, cN_nI (show j < 10 by omega), ea, hg, u2 (1 + j) (by omega)]; exact KM_no rcr_s (by rw [rcr_n (by decide)]; exact u3) (by rw [rcr_n (by decide)]; exact un) (by rw [rcr_n (by decide)]; exact u4) (by rw [rcr_n (by decide)]; exact u5)))
    · rw [b2_0] at h13
      refine j_ldc F cn_X6_50 dX6_cost_16 ?_
      exact j_iret F dX6_cost_18 ((by unfold S_cost; rw [if_neg (fun z => by first | exact h4 z.1 | exact h13 z.2)]; exact KM_no rfl rfl hn3 rfl rfl))
set_option maxHeartbeats 4000000 in
set_option maxRecDepth 100000 in
theorem k_forget {Y : rcY} {la : Launch} {v : rcM} {c : Int32} {n : Nat} (hn4 : n ≤ 4) (hn3 : v 0 3 = nI n) (hw : WF (v 1)) : rcT shM 13 Y la 3 (yX6_forget, cX6_forget, 2, (some .int)) [.ref (Y.2.1 0), .int c] (v) (KQ v (S_forget (v 1) (v 3) n c)) := by
  refine rcT.of (by decide +kernel) (Nat.le_of_ble_eq_true rfl) (fun X F hn => ?_)
  refine j_iload_n F.1 dX6_forget_0 rfl ?_
  refine j_callSi F (k_isCell) co_X6_isCell ml_X6_69 st_X6_isCell in_X6 rc_X6_isCell rfl (by decide) (by decide) rfl (Nat.le_of_ble_eq_true rfl) dX6_forget_1 ?_
  refine j_if_ne F.1 10 dX6_forget_4 (by decide) (fun h4 => ?_) (fun h4 => ?_)
  · rw [b2_0, Classical.not_not] at h4
    obtain ⟨i, hi, rfl⟩ := cell_of h4
    refine j_aload_n F.1 dX6_forget_10 rfl ?_
    refine j_iload_n F.1 dX6_forget_11 rfl ?_
    refine j_bipush F.1 (6) dX6_forget_12 (by decide) ?_
    refine j_callVi F (k_of hi (by decide)) co_X6_of ml_X6_55 im_X6_of se_X6_of in_X6 rc_X6_of rfl (by decide) (by decide) ⟨by decide, rfl⟩ rfl rfl (Nat.le_of_ble_eq_true rfl) dX6_forget_14 ?_
    refine j_if_ne F.1 23 dX6_forget_17 (by decide) (fun h17 => ?_) (fun h17 => ?_)
    · refine j_aload_n F.1 dX6_forget_23 rfl ?_
      refine j_callVv F (k_begins) co_X6_begins ml_X6_76 im_X6_begins se_X6_begins in_X6 rc_X6_begins rfl (by decide) (by decide) ⟨by decide, rfl⟩ rfl rfl (Nat.le_of_ble_eq_true rfl) dX6_forget_24 ?_
      refine j_aload_n F.1 dX6_forget_27 rfl ?_
      refine j_iload_n F.1 dX6_forget_28 rfl ?_
      
      refine j_callVv F (k_drops hi) co_X6_drops ml_X6_137 im_X6_drops se_X6_drops in_X6 rc_X6_drops rfl (by decide) (by decide) ⟨by decide, rfl⟩ rfl rfl (Nat.le_of_ble_eq_true rfl) dX6_forget_29 ?_
      refine j_aload_n F.1 dX6_forget_32 rfl ?_
      refine j_aload_n F.1 dX6_forget_33 rfl ?_
      refine j_callVi F (k_remembered) co_X6_remembered ml_X6_133 im_X6_remembered se_X6_remembered in_X6 rc_X6_remembered rfl (by decide) (by decide) ⟨by decide, rfl⟩ rfl rfl (Nat.le_of_ble_eq_true rfl) dX6_forget_34 ?_
      refine j_callVi F (k_acted hn4 (by rw [rcr_n (by decide), rcr_n (by decide)]; exact hn3)) co_X6_acted ml_X6_83 im_X6_acted se_X6_acted in_X6 rc_X6_acted rfl (by decide) (by decide) ⟨by decide, rfl⟩ rfl rfl (Nat.le_of_ble_eq_true rfl) dX6_forget_37 ?_
      exact j_iret F dX6_forget_40 ((by unfold S_forget; rw [if_pos (nI_in9 hi), cN_nI hi, if_neg h17]; have q := acted_KM (v := v) (w := rcr (rcr v 2 (cp 158 (v 1) (v 2))) 1 (A_drop (v 1) i)) (n := n) (f := v 1) (x := remI (A_drop (v 1) i) 10) (by rw [remI_cnt (fun j hj => ((drop_wf hw).1 j hj).2.2.2.1) 10 (by decide)]; exact fun z => absurd (nI_pos (n := cntH (A_drop (v 1) i) 10) (by have := cntH_le (f := A_drop (v 1) i) 10; omega)) (fun q => q (Int32.lt_of_le_of_lt z (by decide)))) (fun k hk => by rw [rcr_n (by decide), rcr_s, cp_lt hk]) (by rw [rcr_n (by decide), rcr_n (by decide)]) (by rw [rcr_n (by decide), rcr_n (by decide)]) (by rw [rcr_n (by decide), rcr_n (by decide)]); rw [rcr_s] at q; rw [rcr_n (a := 2) (b := 1) (by decide), rcr_s]; exact q))
    · refine j_ldc F cn_X6_146 dX6_forget_20 ?_
      exact j_iret F dX6_forget_22 ((by unfold S_forget; rw [if_pos (nI_in9 hi), cN_nI hi, if_pos h17]; exact KM_no rfl rfl hn3 rfl rfl))
  · rw [b2_0] at h4
    refine j_ldc F cn_X6_50 dX6_forget_7 ?_
    exact j_iret F dX6_forget_9 ((by unfold S_forget; rw [if_neg h4]; exact KM_no rfl rfl hn3 rfl rfl))
set_option maxHeartbeats 4000000 in
set_option maxRecDepth 100000 in
theorem k_bound {Y : rcY} {la : Launch} {v : rcM} {x : Int32} {n : Nat} (hn4 : n ≤ 4) (hn3 : v 0 3 = nI n) (hw : WF (v 1)) : rcT shM 13 Y la 1 (yX6_bound, cX6_bound, 3, (some .int)) [.ref (Y.2.1 0), .int x] (v) (KQ v (S_bound (v 1) (v 3) n x)) := by
  refine rcT.of (by decide +kernel) (Nat.le_of_ble_eq_true rfl) (fun X F hn => ?_)
  refine j_iload_n F.1 dX6_bound_0 rfl ?_
  refine j_iconst F.1 (0) dX6_bound_1 (by decide) ?_
  refine j_bipush F.1 (10) dX6_bound_2 (by decide) ?_
  refine j_callSi F (k_in) co_X6_in ml_X6_46 st_X6_in in_X6 rc_X6_in rfl (by decide) (by decide) rfl (Nat.le_of_ble_eq_true rfl) dX6_bound_4 ?_
  refine j_if_ne F.1 13 dX6_bound_7 (by decide) (fun h7 => ?_) (fun h7 => ?_)
  · rw [b2_0, Classical.not_not] at h7
    refine j_aload_n F.1 dX6_bound_13 rfl ?_
    refine j_callVv F (k_begins) co_X6_begins ml_X6_76 im_X6_begins se_X6_begins in_X6 rc_X6_begins rfl (by decide) (by decide) ⟨by decide, rfl⟩ rfl rfl (Nat.le_of_ble_eq_true rfl) dX6_bound_14 ?_
    refine j_aload_n F.1 dX6_bound_17 rfl ?_
    refine j_getr F (k := 0) inX6 rfl (by decide) fl_X6_7 ⟨by decide, rfl⟩ rfl dX6_bound_18 ?_
    refine j_iconst F.1 (5) dX6_bound_21 (by decide) ?_
    refine j_iald F ⟨by decide, rfl⟩ rfl (by decide) (by decide) dX6_bound_22 ?_
    refine j_istore_n F.1 dX6_bound_23 (by rw [hn]; decide) ?_
    refine j_aload_n F.1 dX6_bound_24 rfl ?_
    refine j_getr F (k := 0) inX6 rfl (by decide) fl_X6_7 ⟨by decide, rfl⟩ rfl dX6_bound_25 ?_
    refine j_iconst F.1 (5) dX6_bound_28 (by decide) ?_
    refine j_iload_n F.1 dX6_bound_29 rfl ?_
    refine j_iast F ⟨by decide, rfl⟩ rfl (by decide) (by decide) dX6_bound_30 ?_
    rw [rcu_r, rcr_n (a := 2) (b := 1) (by decide)]
    refine j_aload_n F.1 dX6_bound_31 rfl ?_
    refine j_iload_n F.1 dX6_bound_32 rfl ?_
    refine j_callVi F (k_acted hn4 (by rw [rcr_n (by decide), rcr_n (by decide)]; exact hn3)) co_X6_acted ml_X6_83 im_X6_acted se_X6_acted in_X6 rc_X6_acted rfl (by decide) (by decide) ⟨by decide, rfl⟩ rfl rfl (Nat.le_of_ble_eq_true rfl) dX6_bound_33 ?_
    exact j_iret F dX6_bound_36 ((by unfold S_bound; rw [if_pos h7]; have q := acted_KM (v := v) (w := rcr (rcr v 2 (cp 158 (v 1) (v 2))) 1 (upd (v 1) 5 x)) (n := n) (f := v 1) (x := v 1 5) (pos_gt hw.2.2) (fun k hk => by rw [rcr_n (by decide), rcr_s, cp_lt hk]) (by rw [rcr_n (by decide), rcr_n (by decide)]) (by rw [rcr_n (by decide), rcr_n (by decide)]) (by rw [rcr_n (by decide), rcr_n (by decide)]); rw [rcr_s] at q; exact q))
  · rw [b2_0] at h7
    refine j_ldc F cn_X6_50 dX6_bound_10 ?_
    exact j_iret F dX6_bound_12 ((by unfold S_bound; rw [if_neg h7]; exact KM_no rfl rfl hn3 rfl rfl))
/-- how many of the first k cells' answers were used less recently than cell i's -/
def plc (f : Nat → Int32) (i : Nat) : Nat → Int32
  | 0 => 0
  | k + 1 => plc f i k + (if f (ix k 6) = 1 ∧ f (ix k 13) < f (ix i 13) then 1 else 0)
set_option maxHeartbeats 4000000 in
set_option maxRecDepth 100000 in
theorem k_placeOf {Y : rcY} {la : Launch} {v : rcM} {i : Nat} (hi : i < 10) : rcT shM 13 Y la 1 (yX6_placeOf, cX6_placeOf, 4, (some .int)) [.ref (Y.2.1 0), .int (nI i)] (v) (rI (plc (v 1) i 10) v) := by
  refine rcT.of (by decide +kernel) (Nat.le_of_ble_eq_true rfl) (fun X F hn => ?_)
  have loop : ∀ r t : Nat, t ≤ 10 → 10 < t + r → rcJ shM 13 Y X (rI (plc (v 1) i 10) v) 4 [(3, .int (nI (t))), (2, .int (plc (v 1) i (t))), (0, .ref (Y.2.1 0)), (1, .int (nI i))] [] v := by
    intro r
    induction r with
    | zero => intro t ht hr; omega
    | succ r ih =>
      intro t ht hr
      refine j_iload_n F.1 dX6_placeOf_4 rfl ?_
      refine j_bipush F.1 (10) dX6_placeOf_5 (by decide) ?_
      refine j_icmp_ge F.1 52 dX6_placeOf_7 (by decide) (fun h7 => ?_) (fun h7 => ?_)
      · have q7 : 10 ≤ t := (nI_leI (a := 10) (b := t) (by omega) (by omega)).mp h7
        refine j_iload_n F.1 dX6_placeOf_52 rfl ?_
        exact j_iret F dX6_placeOf_53 ((rIe (by rw [Nat.le_antisymm ht q7]) rfl))
      · have q7 : t < 10 := Nat.lt_of_not_le (fun z => h7 ((nI_leI (a := 10) (b := t) (by omega) (by omega)).mpr z))
        refine j_iload_n F.1 dX6_placeOf_10 rfl ?_
        refine j_aload_n F.1 dX6_placeOf_11 rfl ?_
        refine j_iload_n F.1 dX6_placeOf_12 rfl ?_
        refine j_bipush F.1 (6) dX6_placeOf_13 (by decide) ?_
        refine j_callVi F (k_of (by omega) (by decide)) co_X6_of ml_X6_55 im_X6_of se_X6_of in_X6 rc_X6_of rfl (by decide) (by decide) ⟨by decide, rfl⟩ rfl rfl (Nat.le_of_ble_eq_true rfl) dX6_placeOf_15 ?_
        refine j_iconst F.1 (1) dX6_placeOf_18 (by decide) ?_
        refine j_icmp_ne F.1 43 dX6_placeOf_19 (by decide) (fun h19 => ?_) (fun h19 => ?_)
        · have ho : ¬ (v 1 (ix t 6) = 1 ∧ v 1 (ix t 13) < v 1 (ix i 13)) := fun q => h19 q.1
          refine j_iconst F.1 (0) dX6_placeOf_43 (by decide) ?_
          refine j_top (y := if v 1 (ix t 6) = 1 ∧ v 1 (ix t 13) < v 1 (ix i 13) then 1 else 0) (by first | rw [if_pos ho] | rw [if_neg ho]) ?_
          refine j_iadd F.1 dX6_placeOf_44 ?_
          refine j_istore_n F.1 dX6_placeOf_45 (by rw [hn]; decide) ?_
          refine j_iinc F.1 (1) dX6_placeOf_46 (by decide) rfl (by rw [hn]; decide) ?_
          refine j_goto F.1 4 dX6_placeOf_49 (by decide) ?_
          refine j_loc [(3, .int (nI (t + 1))), (2, .int (plc (v 1) i (t + 1))), (0, .ref (Y.2.1 0)), (1, .int (nI i))] (by rw [← nI_1]; rfl) ?_
          exact ih (t + 1) (by omega) (by omega)
        · refine j_aload_n F.1 dX6_placeOf_22 rfl ?_
          refine j_iload_n F.1 dX6_placeOf_23 rfl ?_
          refine j_bipush F.1 (13) dX6_placeOf_24 (by decide) ?_
          refine j_callVi F (k_of (by omega) (by decide)) co_X6_of ml_X6_55 im_X6_of se_X6_of in_X6 rc_X6_of rfl (by decide) (by decide) ⟨by decide, rfl⟩ rfl rfl (Nat.le_of_ble_eq_true rfl) dX6_placeOf_26 ?_
          refine j_aload_n F.1 dX6_placeOf_29 rfl ?_
          refine j_iload_n F.1 dX6_placeOf_30 rfl ?_
          refine j_bipush F.1 (13) dX6_placeOf_31 (by decide) ?_
          refine j_callVi F (k_of hi (by decide)) co_X6_of ml_X6_55 im_X6_of se_X6_of in_X6 rc_X6_of rfl (by decide) (by decide) ⟨by decide, rfl⟩ rfl rfl (Nat.le_of_ble_eq_true rfl) dX6_placeOf_33 ?_
          refine j_icmp_ge F.1 43 dX6_placeOf_36 (by decide) (fun h36 => ?_) (fun h36 => ?_)
          · have ho : ¬ (v 1 (ix t 6) = 1 ∧ v 1 (ix t 13) < v 1 (ix i 13)) := fun q => Int32.not_lt.mpr h36 q.2
            refine j_iconst F.1 (0) dX6_placeOf_43 (by decide) ?_
            refine j_top (y := if v 1 (ix t 6) = 1 ∧ v 1 (ix t 13) < v 1 (ix i 13) then 1 else 0) (by first | rw [if_pos ho] | rw [if_neg ho]) ?_
            refine j_iadd F.1 dX6_placeOf_44 ?_
            refine j_istore_n F.1 dX6_placeOf_45 (by rw [hn]; decide) ?_
            refine j_iinc F.1 (1) dX6_placeOf_46 (by decide) rfl (by rw [hn]; decide) ?_
            refine j_goto F.1 4 dX6_placeOf_49 (by decide) ?_
            refine j_loc [(3, .int (nI (t + 1))), (2, .int (plc (v 1) i (t + 1))), (0, .ref (Y.2.1 0)), (1, .int (nI i))] (by rw [← nI_1]; rfl) ?_
            exact ih (t + 1) (by omega) (by omega)
          · have ho : v 1 (ix t 6) = 1 ∧ v 1 (ix t 13) < v 1 (ix i 13) := ⟨h19, Int32.not_le.mp h36⟩
            refine j_iconst F.1 (1) dX6_placeOf_39 (by decide) ?_
            refine j_goto F.1 44 dX6_placeOf_40 (by decide) ?_
            refine j_top (y := if v 1 (ix t 6) = 1 ∧ v 1 (ix t 13) < v 1 (ix i 13) then 1 else 0) (by first | rw [if_pos ho] | rw [if_neg ho]) ?_
            refine j_iadd F.1 dX6_placeOf_44 ?_
            refine j_istore_n F.1 dX6_placeOf_45 (by rw [hn]; decide) ?_
            refine j_iinc F.1 (1) dX6_placeOf_46 (by decide) rfl (by rw [hn]; decide) ?_
            refine j_goto F.1 4 dX6_placeOf_49 (by decide) ?_
            refine j_loc [(3, .int (nI (t + 1))), (2, .int (plc (v 1) i (t + 1))), (0, .ref (Y.2.1 0)), (1, .int (nI i))] (by rw [← nI_1]; rfl) ?_
            exact ih (t + 1) (by omega) (by omega)
  refine j_iconst F.1 (0) dX6_placeOf_0 (by decide) ?_
  refine j_istore_n F.1 dX6_placeOf_1 (by rw [hn]; decide) ?_
  refine j_iconst F.1 (0) dX6_placeOf_2 (by decide) ?_
  refine j_istore_n F.1 dX6_placeOf_3 (by rw [hn]; decide) ?_
  refine j_loc [(3, .int (nI (0))), (2, .int (plc (v 1) i (0))), (0, .ref (Y.2.1 0)), (1, .int (nI i))] rfl ?_
  exact loop 11 0 (by omega) (by omega)
def S_remOf (f p : Nat → Int32) (n : Nat) (c w : Int32) : rcS := if (0 ≤ c ∧ c ≤ 9) ∧ (0 ≤ w ∧ w ≤ 6) then
    (if f (ix (cN c) 6) = 0 ∨ ((4 ≤ w ∧ w ≤ 5) ∧ f (ix (cN c) 10) ≤ w - 4) then S_no (-2000000004) f p n
     else if w = 6 then S_no (plc f (cN c) 10) f p n else S_no (f (ix (cN c) (7 + cN w))) f p n) else S_no (-2000000001) f p n
set_option maxHeartbeats 4000000 in
set_option maxRecDepth 100000 in
theorem k_rememberedOf {Y : rcY} {la : Launch} {v : rcM} {c w : Int32} {n : Nat} (hn4 : n ≤ 4) (hn3 : v 0 3 = nI n) : rcT shM 13 Y la 2 (yX6_rememberedOf, cX6_rememberedOf, 3, (some .int)) [.ref (Y.2.1 0), .int c, .int w] (v) (KQ v (S_remOf (v 1) (v 3) n c w)) := by
  refine rcT.of (by decide +kernel) (Nat.le_of_ble_eq_true rfl) (fun X F hn => ?_)
  refine j_iload_n F.1 dX6_rememberedOf_0 rfl ?_
  refine j_callSi F (k_isCell) co_X6_isCell ml_X6_69 st_X6_isCell in_X6 rc_X6_isCell rfl (by decide) (by decide) rfl (Nat.le_of_ble_eq_true rfl) dX6_rememberedOf_1 ?_
  refine j_if_eq F.1 17 dX6_rememberedOf_4 (by decide) (fun h4 => ?_) (fun h4 => ?_)
  · rw [b2_0] at h4
    refine j_ldc F cn_X6_50 dX6_rememberedOf_17 ?_
    exact j_iret F dX6_rememberedOf_19 ((by unfold S_remOf; rw [if_neg (fun z => by first | exact h4 z.1 | exact h14 z.2)]; exact KM_no rfl rfl hn3 rfl rfl))
  · rw [b2_0, Classical.not_not] at h4
    obtain ⟨i, hi, rfl⟩ := cell_of h4
    refine j_iload_n F.1 dX6_rememberedOf_7 rfl ?_
    refine j_iconst F.1 (0) dX6_rememberedOf_8 (by decide) ?_
    refine j_bipush F.1 (6) dX6_rememberedOf_9 (by decide) ?_
    refine j_callSi F (k_in) co_X6_in ml_X6_46 st_X6_in in_X6 rc_X6_in rfl (by decide) (by decide) rfl (Nat.le_of_ble_eq_true rfl) dX6_rememberedOf_11 ?_
    refine j_if_ne F.1 20 dX6_rememberedOf_14 (by decide) (fun h14 => ?_) (fun h14 => ?_)
    · rw [b2_0, Classical.not_not] at h14
      obtain ⟨j, hj, rfl⟩ := what_of (n := 6) rfl h14
      refine j_aload_n F.1 dX6_rememberedOf_20 rfl ?_
      refine j_iload_n F.1 dX6_rememberedOf_21 rfl ?_
      refine j_bipush F.1 (6) dX6_rememberedOf_22 (by decide) ?_
      refine j_callVi F (k_of hi (by decide)) co_X6_of ml_X6_55 im_X6_of se_X6_of in_X6 rc_X6_of rfl (by decide) (by decide) ⟨by decide, rfl⟩ rfl rfl (Nat.le_of_ble_eq_true rfl) dX6_rememberedOf_24 ?_
      refine j_if_eq F.1 52 dX6_rememberedOf_27 (by decide) (fun h27 => ?_) (fun h27 => ?_)
      · have nf : v 1 (ix i 6) = 0 ∨ ((4 ≤ nI j ∧ nI j ≤ 5) ∧ v 1 (ix i 10) ≤ nI j - 4) := Or.inl h27
        refine j_ldc F cn_X6_87 dX6_rememberedOf_52 ?_
        exact j_iret F dX6_rememberedOf_54 ((by unfold S_remOf; rw [if_pos ⟨nI_in9 hi, h14⟩, cN_nI hi, if_pos nf]; exact KM_no rfl rfl hn3 rfl rfl))
      · refine j_iload_n F.1 dX6_rememberedOf_30 rfl ?_
        refine j_iconst F.1 (4) dX6_rememberedOf_31 (by decide) ?_
        refine j_iconst F.1 (5) dX6_rememberedOf_32 (by decide) ?_
        refine j_callSi F (k_in) co_X6_in ml_X6_46 st_X6_in in_X6 rc_X6_in rfl (by decide) (by decide) rfl (Nat.le_of_ble_eq_true rfl) dX6_rememberedOf_33 ?_
        refine j_if_eq F.1 55 dX6_rememberedOf_36 (by decide) (fun h36 => ?_) (fun h36 => ?_)
        · rw [b2_0] at h36
          have nn : ¬ (v 1 (ix i 6) = 0 ∨ ((4 ≤ nI j ∧ nI j ≤ 5) ∧ v 1 (ix i 10) ≤ nI j - 4)) := fun q => q.elim h27 (fun q => h36 q.1)
          refine j_iload_n F.1 dX6_rememberedOf_55 rfl ?_
          refine j_bipush F.1 (6) dX6_rememberedOf_56 (by decide) ?_
          refine j_icmp_ne F.1 69 dX6_rememberedOf_58 (by decide) (fun h58 => ?_) (fun h58 => ?_)
          · refine j_aload_n F.1 dX6_rememberedOf_69 rfl ?_
            refine j_iload_n F.1 dX6_rememberedOf_70 rfl ?_
            refine j_bipush F.1 (7) dX6_rememberedOf_71 (by decide) ?_
            refine j_iload_n F.1 dX6_rememberedOf_73 rfl ?_
            refine j_iadd F.1 dX6_rememberedOf_74 ?_
            refine j_top (y := nI (7 + j)) (by rw [show (7 : Int32) = nI 7 from rfl, nI_add]) ?_
            refine j_callVi F (k_of hi (by omega)) co_X6_of ml_X6_55 im_X6_of se_X6_of in_X6 rc_X6_of rfl (by decide) (by decide) ⟨by decide, rfl⟩ rfl rfl (Nat.le_of_ble_eq_true rfl) dX6_rememberedOf_75 ?_
            exact j_iret F dX6_rememberedOf_78 ((by unfold S_remOf; rw [if_pos ⟨nI_in9 hi, h14⟩, cN_nI hi, if_neg nn, cN_nI (show j < 10 by omega)]; first | (rw [if_pos h58]; exact KM_no rfl rfl hn3 rfl rfl) | (rw [if_neg h58]; exact KM_no rfl rfl hn3 rfl rfl)))
          · refine j_aload_n F.1 dX6_rememberedOf_61 rfl ?_
            refine j_iload_n F.1 dX6_rememberedOf_62 rfl ?_
            refine j_callVi F (k_placeOf hi) co_X6_placeOf ml_X6_150 im_X6_placeOf se_X6_placeOf in_X6 rc_X6_placeOf rfl (by decide) (by decide) ⟨by decide, rfl⟩ rfl rfl (Nat.le_of_ble_eq_true rfl) dX6_rememberedOf_63 ?_
            refine j_goto F.1 78 dX6_rememberedOf_66 (by decide) ?_
            exact j_iret F dX6_rememberedOf_78 ((by unfold S_remOf; rw [if_pos ⟨nI_in9 hi, h14⟩, cN_nI hi, if_neg nn, cN_nI (show j < 10 by omega)]; first | (rw [if_pos h58]; exact KM_no rfl rfl hn3 rfl rfl) | (rw [if_neg h58]; exact KM_no rfl rfl hn3 rfl rfl)))
        · rw [b2_0, Classical.not_not] at h36
          refine j_iload_n F.1 dX6_rememberedOf_39 rfl ?_
          refine j_iconst F.1 (4) dX6_rememberedOf_40 (by decide) ?_
          refine j_isub F.1 dX6_rememberedOf_41 ?_
          refine j_aload_n F.1 dX6_rememberedOf_42 rfl ?_
          refine j_iload_n F.1 dX6_rememberedOf_43 rfl ?_
          refine j_bipush F.1 (10) dX6_rememberedOf_44 (by decide) ?_
          refine j_callVi F (k_of hi (by decide)) co_X6_of ml_X6_55 im_X6_of se_X6_of in_X6 rc_X6_of rfl (by decide) (by decide) ⟨by decide, rfl⟩ rfl rfl (Nat.le_of_ble_eq_true rfl) dX6_rememberedOf_46 ?_
          refine j_icmp_lt F.1 55 dX6_rememberedOf_49 (by decide) (fun h49 => ?_) (fun h49 => ?_)
          · have nn : ¬ (v 1 (ix i 6) = 0 ∨ ((4 ≤ nI j ∧ nI j ≤ 5) ∧ v 1 (ix i 10) ≤ nI j - 4)) := fun q => q.elim h27 (fun q => Int32.not_le.mpr h49 q.2)
            refine j_iload_n F.1 dX6_rememberedOf_55 rfl ?_
            refine j_bipush F.1 (6) dX6_rememberedOf_56 (by decide) ?_
            refine j_icmp_ne F.1 69 dX6_rememberedOf_58 (by decide) (fun h58 => ?_) (fun h58 => ?_)
            · refine j_aload_n F.1 dX6_rememberedOf_69 rfl ?_
              refine j_iload_n F.1 dX6_rememberedOf_70 rfl ?_
              refine j_bipush F.1 (7) dX6_rememberedOf_71 (by decide) ?_
              refine j_iload_n F.1 dX6_rememberedOf_73 rfl ?_
              refine j_iadd F.1 dX6_rememberedOf_74 ?_
              refine j_top (y := nI (7 + j)) (by rw [show (7 : Int32) = nI 7 from rfl, nI_add]) ?_
              refine j_callVi F (k_of hi (by omega)) co_X6_of ml_X6_55 im_X6_of se_X6_of in_X6 rc_X6_of rfl (by decide) (by decide) ⟨by decide, rfl⟩ rfl rfl (Nat.le_of_ble_eq_true rfl) dX6_rememberedOf_75 ?_
              exact j_iret F dX6_rememberedOf_78 ((by unfold S_remOf; rw [if_pos ⟨nI_in9 hi, h14⟩, cN_nI hi, if_neg nn, cN_nI (show j < 10 by omega)]; first | (rw [if_pos h58]; exact KM_no rfl rfl hn3 rfl rfl) | (rw [if_neg h58]; exact KM_no rfl rfl hn3 rfl rfl)))
            · refine j_aload_n F.1 dX6_rememberedOf_61 rfl ?_
              refine j_iload_n F.1 dX6_rememberedOf_62 rfl ?_
              refine j_callVi F (k_placeOf hi) co_X6_placeOf ml_X6_150 im_X6_placeOf se_X6_placeOf in_X6 rc_X6_placeOf rfl (by decide) (by decide) ⟨by decide, rfl⟩ rfl rfl (Nat.le_of_ble_eq_true rfl) dX6_rememberedOf_63 ?_
              refine j_goto F.1 78 dX6_rememberedOf_66 (by decide) ?_
              exact j_iret F dX6_rememberedOf_78 ((by unfold S_remOf; rw [if_pos ⟨nI_in9 hi, h14⟩, cN_nI hi, if_neg nn, cN_nI (show j < 10 by omega)]; first | (rw [if_pos h58]; exact KM_no rfl rfl hn3 rfl rfl) | (rw [if_neg h58]; exact KM_no rfl rfl hn3 rfl rfl)))
          · have nf : v 1 (ix i 6) = 0 ∨ ((4 ≤ nI j ∧ nI j ≤ 5) ∧ v 1 (ix i 10) ≤ nI j - 4) := Or.inr ⟨h36, Int32.not_lt.mp h49⟩
            refine j_ldc F cn_X6_87 dX6_rememberedOf_52 ?_
            exact j_iret F dX6_rememberedOf_54 ((by unfold S_remOf; rw [if_pos ⟨nI_in9 hi, h14⟩, cN_nI hi, if_pos nf]; exact KM_no rfl rfl hn3 rfl rfl))
    · rw [b2_0] at h14
      refine j_ldc F cn_X6_50 dX6_rememberedOf_17 ?_
      exact j_iret F dX6_rememberedOf_19 ((by unfold S_remOf; rw [if_neg (fun z => by first | exact h4 z.1 | exact h14 z.2)]; exact KM_no rfl rfl hn3 rfl rfl))
