/-! The reference: remembered answers, and what goes. -/
def remI (f : Nat → Int32) : Nat → Int32
  | 0 => 0
  | n + 1 => remI f n + f (ix n 6)
/-- nine places of a cell laid to 0, as far as n -/
def zd (n i : Nat) (f : Nat → Int32) : Nat → Int32 := fun k => if ix i 6 ≤ k ∧ k < ix i n then 0 else f k
theorem zd_6 {i : Nat} {f : Nat → Int32} : zd 6 i f = f := by
  funext k
  unfold zd
  rw [if_neg (by omega)]
theorem zd_s {n i : Nat} {f : Nat → Int32} (h : 6 ≤ n) : upd (zd n i f) (ix i n) 0 = zd (n + 1) i f := by
  funext k
  unfold upd zd ix
  by_cases e : k = 8 + 15 * i + n
  · rw [if_pos e, if_pos (by omega)]
  · rw [if_neg e]
    by_cases h2 : 8 + 15 * i + 6 ≤ k ∧ k < 8 + 15 * i + n
    · rw [if_pos h2, if_pos (by omega)]
    · rw [if_neg h2, if_neg (by omega)]
def A_drop (f : Nat → Int32) (i : Nat) : Nat → Int32 := upd (zd 15 i f) 4 (f 4 + 1)
/-- the oldest of the first k cells' answers -/
def old (f : Nat → Int32) : Nat → Int32
  | 0 => -1
  | k + 1 => if f (ix k 6) = 1 ∧ (old f k < 0 ∨ f (ix k 13) < f (ix (cN (old f k)) 13)) then nI k else old f k
def A_trim : Nat → (Nat → Int32) → (Nat → Int32)
  | 0, f => f
  | m + 1, f => if f 5 < remI f 10 then A_trim m (A_drop f (cN (old f 10))) else f
theorem A_trim_s {m : Nat} {f : Nat → Int32} : A_trim (m + 1) f = if f 5 < remI f 10 then A_trim m (A_drop f (cN (old f 10))) else f := rfl
/-- how many of the first k cells have an answer -/
def cntH (f : Nat → Int32) : Nat → Nat
  | 0 => 0
  | k + 1 => cntH f k + (if f (ix k 6) = 1 then 1 else 0)
theorem cntH_le {f : Nat → Int32} : ∀ k, cntH f k ≤ k
  | 0 => Nat.le_refl _
  | k + 1 => by have := cntH_le (f := f) k; unfold cntH; split <;> omega
theorem remI_cnt {f : Nat → Int32} (h : ∀ i, i < 10 → f (ix i 6) = 0 ∨ f (ix i 6) = 1) : ∀ k, k ≤ 10 → remI f k = nI (cntH f k)
  | 0, _ => rfl
  | k + 1, hk => by
    unfold remI cntH
    rw [remI_cnt h k (by omega)]
    rcases h k (by omega) with z | z
    · rw [z, if_neg (by decide)]
      show nI _ + nI 0 = _
      rw [nI_add]
    · rw [z, if_pos rfl, nI_1]
theorem old_spec {f : Nat → Int32} : ∀ k, k ≤ 10 → (cntH f k = 0 ∧ old f k = -1) ∨ (0 < cntH f k ∧ ∃ j, j < k ∧ old f k = nI j ∧ f (ix j 6) = 1)
  | 0, _ => Or.inl ⟨rfl, rfl⟩
  | k + 1, hk => by
    unfold old cntH
    by_cases h6 : f (ix k 6) = 1
    · rw [if_pos h6]
      refine Or.inr ⟨by omega, ?_⟩
      split
      · exact ⟨k, by omega, rfl, h6⟩
      · rename_i hn
        rcases old_spec (f := f) k (by omega) with z | ⟨z, j, hj, e, e6⟩
        · exact absurd ⟨h6, Or.inl (by rw [z.2]; decide)⟩ hn
        · exact ⟨j, by omega, e, e6⟩
    · rw [if_neg h6, if_neg (fun q => h6 q.1)]
      rcases old_spec (f := f) k (by omega) with z | ⟨z, j, hj, e, e6⟩
      · exact Or.inl ⟨by omega, z.2⟩
      · exact Or.inr ⟨by omega, j, by omega, e, e6⟩
theorem drop_o {f : Nat → Int32} {c k : Nat} (h : ∀ j, 6 ≤ j → j < 15 → k ≠ ix c j) (h4 : k ≠ 4) : A_drop f c k = f k := by
  unfold A_drop
  rw [pk_un h4]
  unfold zd
  rw [if_neg]
  intro q
  unfold ix at q h
  exact h (k - (8 + 15 * c)) (by omega) (by omega) (by omega)
theorem drop_6 {f : Nat → Int32} {c j : Nat} (h : 6 ≤ j) (h2 : j < 15) : A_drop f c (ix c j) = 0 := by
  unfold A_drop
  rw [pk_un (ix_g (by decide))]
  unfold zd
  rw [if_pos (by unfold ix; omega)]
theorem drop_c {f : Nat → Int32} {c i j : Nat} (h : i ≠ c) (hj : j < 15) : A_drop f c (ix i j) = f (ix i j) := drop_o (fun q _ h2 => ix_o h hj h2) (ix_g (by decide))
theorem drop_d {f : Nat → Int32} {c j : Nat} (hj : j < 6) : A_drop f c (ix c j) = f (ix c j) := drop_o (fun q h1 _ => ix_j (by omega)) (ix_g (by decide))
theorem drop_g {f : Nat → Int32} {c k : Nat} (hk : k < 8) (h4 : k ≠ 4) : A_drop f c k = f k := drop_o (fun q _ _ => ix_h hk) h4
theorem drop_cnt {f : Nat → Int32} {c : Nat} : ∀ k, cntH (A_drop f c) k + (if c < k ∧ f (ix c 6) = 1 then 1 else 0) = cntH f k
  | 0 => by simp [cntH]
  | k + 1 => by
    have ih := drop_cnt (f := f) (c := c) k
    unfold cntH
    by_cases e : k = c
    · subst e
      rw [drop_6 (by decide) (by decide), if_neg (show ¬ (0 : Int32) = 1 by decide)]
      rw [if_neg (fun q => absurd q.1 (Nat.lt_irrefl _))] at ih
      by_cases h6 : f (ix k 6) = 1
      · rw [if_pos ⟨Nat.lt_succ_self _, h6⟩, if_pos h6]; omega
      · rw [if_neg (fun q => h6 q.2), if_neg h6]; omega
    · rw [drop_c e (by decide)]
      by_cases h6 : c < k ∧ f (ix c 6) = 1
      · rw [if_pos h6] at ih
        rw [if_pos (show c < k + 1 ∧ f (ix c 6) = 1 from ⟨by omega, h6.2⟩)]; omega
      · rw [if_neg h6] at ih
        rw [if_neg (show ¬ (c < k + 1 ∧ f (ix c 6) = 1) from fun q => h6 ⟨by omega, q.2⟩)]; omega
theorem drop_wf {f : Nat → Int32} {c : Nat} (w : WF f) : WF (A_drop f c) := by
  refine ⟨fun i hi => ?_, by rw [drop_g (by decide) (by decide)]; exact w.2.1, by rw [drop_g (by decide) (by decide)]; exact w.2.2⟩
  by_cases e : i = c
  · subst e
    have w0 := w.1 i hi
    unfold wfCell at w0 ⊢
    rw [drop_d (by decide), drop_d (by decide), drop_d (by decide), drop_d (by decide), drop_d (by decide), drop_d (by decide), drop_6 (by decide) (by decide)]
    exact ⟨w0.1, fun z => let q := w0.2.1 z; ⟨q.1, q.2.1, q.2.2.1, q.2.2.2.1, q.2.2.2.2.1, q.2.2.2.2.2.1, rfl⟩, w0.2.2.1, Or.inl rfl, fun z => absurd z (by decide)⟩
  · exact wfCell_same (fun j hj _ => drop_c e (by omega)) (w.1 i hi)
set_option maxHeartbeats 4000000 in
set_option maxRecDepth 100000 in
theorem k_remembered {Y : rcY} {la : Launch} {v : rcM}  : rcT shM 13 Y la 1 (yX6_remembered, cX6_remembered, 3, (some .int)) [.ref (Y.2.1 0)] (v) (rI (remI (v 1) 10) v) := by
  refine rcT.of (by decide +kernel) (Nat.le_of_ble_eq_true rfl) (fun X F hn => ?_)
  have loop : ∀ r t : Nat, t ≤ 10 → 10 < t + r → rcJ shM 13 Y X (rI (remI (v 1) 10) v) 4 [(2, .int (nI (t))), (1, .int (remI (v 1) (t))), (0, .ref (Y.2.1 0))] [] v := by
    intro r
    induction r with
    | zero => intro t ht hr; omega
    | succ r ih =>
      intro t ht hr
      refine j_iload_n F.1 dX6_remembered_4 rfl ?_
      refine j_bipush F.1 (10) dX6_remembered_5 (by decide) ?_
      refine j_icmp_ge F.1 26 dX6_remembered_7 (by decide) (fun h7 => ?_) (fun h7 => ?_)
      · have q7 : 10 ≤ t := (nI_leI (a := 10) (b := t) (by omega) (by omega)).mp h7
        refine j_iload_n F.1 dX6_remembered_26 rfl ?_
        exact j_iret F dX6_remembered_27 ((rIe (by rw [Nat.le_antisymm ht q7]) rfl))
      · have q7 : t < 10 := Nat.lt_of_not_le (fun z => h7 ((nI_leI (a := 10) (b := t) (by omega) (by omega)).mpr z))
        refine j_iload_n F.1 dX6_remembered_10 rfl ?_
        refine j_aload_n F.1 dX6_remembered_11 rfl ?_
        refine j_iload_n F.1 dX6_remembered_12 rfl ?_
        refine j_bipush F.1 (6) dX6_remembered_13 (by decide) ?_
        refine j_callVi F (k_of (by omega) (by decide)) co_X6_of ml_X6_55 im_X6_of se_X6_of in_X6 rc_X6_of rfl (by decide) (by decide) ⟨by decide, rfl⟩ rfl rfl (Nat.le_of_ble_eq_true rfl) dX6_remembered_15 ?_
        refine j_iadd F.1 dX6_remembered_18 ?_
        refine j_istore_n F.1 dX6_remembered_19 (by rw [hn]; decide) ?_
        refine j_iinc F.1 (1) dX6_remembered_20 (by decide) rfl (by rw [hn]; decide) ?_
        refine j_goto F.1 4 dX6_remembered_23 (by decide) ?_
        refine j_loc [(2, .int (nI (t + 1))), (1, .int (remI (v 1) (t + 1))), (0, .ref (Y.2.1 0))] (by rw [← nI_1]; rfl) ?_
        exact ih (t + 1) (by omega) (by omega)
  refine j_iconst F.1 (0) dX6_remembered_0 (by decide) ?_
  refine j_istore_n F.1 dX6_remembered_1 (by rw [hn]; decide) ?_
  refine j_iconst F.1 (0) dX6_remembered_2 (by decide) ?_
  refine j_istore_n F.1 dX6_remembered_3 (by rw [hn]; decide) ?_
  refine j_loc [(2, .int (nI (0))), (1, .int (remI (v 1) (0))), (0, .ref (Y.2.1 0))] rfl ?_
  exact loop 11 0 (by omega) (by omega)
set_option maxHeartbeats 4000000 in
set_option maxRecDepth 100000 in
theorem k_drops {Y : rcY} {la : Launch} {v : rcM} {i : Nat} (hi : i < 10) : rcT shM 13 Y la 1 (yX6_drops, cX6_drops, 3, none) [.ref (Y.2.1 0), .int (nI i)] (v) (rV (rcr v 1 (A_drop (v 1) i))) := by
  refine rcT.of (by decide +kernel) (Nat.le_of_ble_eq_true rfl) (fun X F hn => ?_)
  have loop : ∀ r t : Nat, 6 ≤ t → t ≤ 15 → 15 < t + r → rcJ shM 13 Y X (rV (rcr v 1 (A_drop (v 1) i))) 3 [(2, .int (nI (t))), (0, .ref (Y.2.1 0)), (1, .int (nI i))] [] (rcr v 1 (zd (t) i (v 1))) := by
    intro r
    induction r with
    | zero => intro t hlo ht hr; omega
    | succ r ih =>
      intro t hlo ht hr
      refine j_iload_n F.1 dX6_drops_3 rfl ?_
      refine j_bipush F.1 (15) dX6_drops_4 (by decide) ?_
      refine j_icmp_ge F.1 22 dX6_drops_6 (by decide) (fun h6 => ?_) (fun h6 => ?_)
      · have q6 : 15 ≤ t := (nI_leI (a := 15) (b := t) (by omega) (by omega)).mp h6
        refine j_aload_n F.1 dX6_drops_22 rfl ?_
        refine j_getr F (k := 0) inX6 rfl (by decide) fl_X6_7 ⟨by decide, rfl⟩ rfl dX6_drops_23 ?_
        refine j_iconst F.1 (4) dX6_drops_26 (by decide) ?_
        refine j_dup2 F.1 dX6_drops_27 rfl rfl ?_
        refine j_iald F ⟨by decide, rfl⟩ rfl (by decide) (by decide) dX6_drops_28 ?_
        refine j_iconst F.1 (1) dX6_drops_29 (by decide) ?_
        refine j_iadd F.1 dX6_drops_30 ?_
        refine j_iast F ⟨by decide, rfl⟩ rfl (by decide) (by decide) dX6_drops_31 ?_
        exact j_vret F dX6_drops_32 ((rVe (by rw [Nat.le_antisymm ht q6, rcu_r, rcr_rcr, rcr_s]; have z4 : zd 15 i (v 1) 4 = v 1 4 := by { unfold zd ix; rw [if_neg (by omega)] }; rw [z4]; rfl)))
      · have q6 : t < 15 := Nat.lt_of_not_le (fun z => h6 ((nI_leI (a := 15) (b := t) (by omega) (by omega)).mpr z))
        refine j_aload_n F.1 dX6_drops_9 rfl ?_
        refine j_iload_n F.1 dX6_drops_10 rfl ?_
        refine j_iload_n F.1 dX6_drops_11 rfl ?_
        refine j_iconst F.1 (0) dX6_drops_12 (by decide) ?_
        refine j_callVv F (k_puts hi (by omega)) co_X6_puts ml_X6_63 im_X6_puts se_X6_puts in_X6 rc_X6_puts rfl (by decide) (by decide) ⟨by decide, rfl⟩ rfl rfl (Nat.le_of_ble_eq_true rfl) dX6_drops_13 ?_
        rw [rcr_rcr, rcr_s]
        refine j_iinc F.1 (1) dX6_drops_16 (by decide) rfl (by rw [hn]; decide) ?_
        refine j_goto F.1 3 dX6_drops_19 (by decide) ?_
        refine j_loc [(2, .int (nI (t + 1))), (0, .ref (Y.2.1 0)), (1, .int (nI i))] (by rw [← nI_1]; rfl) ?_
        rw [zd_s hlo]
        exact ih (t + 1) (by omega) (by omega) (by omega)
  refine j_bipush F.1 (6) dX6_drops_0 (by decide) ?_
  refine j_istore_n F.1 dX6_drops_2 (by rw [hn]; decide) ?_
  refine j_loc [(2, .int (nI (6))), (0, .ref (Y.2.1 0)), (1, .int (nI i))] rfl ?_
  have e := loop 16 6 (by omega) (by omega) (by omega)
  rw [zd_6, rcr_self] at e
  exact e
set_option maxHeartbeats 4000000 in
set_option maxRecDepth 100000 in
theorem k_trims {Y : rcY} {la : Launch} {v : rcM} (hw : WF (v 1)) : rcT shM 13 Y la 2 (yX6_trims, cX6_trims, 3, none) [.ref (Y.2.1 0)] (v) (rV (rcr v 1 (A_trim 10 (v 1)))) := by
  refine rcT.of (by decide +kernel) (Nat.le_of_ble_eq_true rfl) (fun X F hn => ?_)
  have inner : ∀ (K : Option Value → rcM → Prop) (w : rcM), rcJ shM 13 Y X K 67 [(1, .int (old (w 1) 10)), (0, .ref (Y.2.1 0))] [] w → rcJ shM 13 Y X K 17 [(2, .int (nI (0))), (1, .int (old (w 1) (0))), (0, .ref (Y.2.1 0))] [] w := by
    intro K w hB
    have loop : ∀ r t : Nat, t ≤ 10 → 10 < t + r → rcJ shM 13 Y X K 17 [(2, .int (nI (t))), (1, .int (old (w 1) (t))), (0, .ref (Y.2.1 0))] [] w := by
      intro r
      induction r with
      | zero => intro t ht hr; omega
      | succ r ih =>
        intro t ht hr
        refine j_iload_n F.1 dX6_trims_17 rfl ?_
        refine j_bipush F.1 (10) dX6_trims_18 (by decide) ?_
        refine j_icmp_ge F.1 67 dX6_trims_20 (by decide) (fun h20 => ?_) (fun h20 => ?_)
        · have q20 : 10 ≤ t := (nI_leI (a := 10) (b := t) (by omega) (by omega)).mp h20
          refine j_loc [(1, .int (old (w 1) t)), (0, .ref (Y.2.1 0))] rfl ?_
          rw [Nat.le_antisymm ht q20]
          exact hB
        · have q20 : t < 10 := Nat.lt_of_not_le (fun z => h20 ((nI_leI (a := 10) (b := t) (by omega) (by omega)).mpr z))
          refine j_aload_n F.1 dX6_trims_23 rfl ?_
          refine j_iload_n F.1 dX6_trims_24 rfl ?_
          refine j_bipush F.1 (6) dX6_trims_25 (by decide) ?_
          refine j_callVi F (k_of (by omega) (by decide)) co_X6_of ml_X6_55 im_X6_of se_X6_of in_X6 rc_X6_of rfl (by decide) (by decide) ⟨by decide, rfl⟩ rfl rfl (Nat.le_of_ble_eq_true rfl) dX6_trims_27 ?_
          refine j_iconst F.1 (1) dX6_trims_30 (by decide) ?_
          refine j_icmp_ne F.1 59 dX6_trims_31 (by decide) (fun h31 => ?_) (fun h31 => ?_)
          · have ho : old (w 1) (t + 1) = old (w 1) t := if_neg (fun q => h31 q.1)
            refine j_iload_n F.1 dX6_trims_59 rfl ?_
            refine j_top ho.symm ?_
            refine j_istore_n F.1 dX6_trims_60 (by rw [hn]; decide) ?_
            refine j_iinc F.1 (1) dX6_trims_61 (by decide) rfl (by rw [hn]; decide) ?_
            refine j_goto F.1 17 dX6_trims_64 (by decide) ?_
            refine j_loc [(2, .int (nI (t + 1))), (1, .int (old (w 1) (t + 1))), (0, .ref (Y.2.1 0))] (by rw [← nI_1]; rfl) ?_
            exact ih (t + 1) (by omega) (by omega)
          · refine j_iload_n F.1 dX6_trims_34 rfl ?_
            refine j_if_lt F.1 55 dX6_trims_35 (by decide) (fun h35 => ?_) (fun h35 => ?_)
            · have ho : old (w 1) (t + 1) = nI t := if_pos ⟨h31, Or.inl h35⟩
              refine j_iload_n F.1 dX6_trims_55 rfl ?_
              refine j_goto F.1 60 dX6_trims_56 (by decide) ?_
              refine j_top ho.symm ?_
              refine j_istore_n F.1 dX6_trims_60 (by rw [hn]; decide) ?_
              refine j_iinc F.1 (1) dX6_trims_61 (by decide) rfl (by rw [hn]; decide) ?_
              refine j_goto F.1 17 dX6_trims_64 (by decide) ?_
              refine j_loc [(2, .int (nI (t + 1))), (1, .int (old (w 1) (t + 1))), (0, .ref (Y.2.1 0))] (by rw [← nI_1]; rfl) ?_
              exact ih (t + 1) (by omega) (by omega)
            · obtain ⟨j, hj, e⟩ : ∃ j, j < 10 ∧ old (w 1) t = nI j := by
                rcases old_spec (f := w 1) t (by omega) with z | ⟨_, j, hj, e, _⟩
                · exact absurd (by rw [z.2]; decide) h35
                · exact ⟨j, by omega, e⟩
              refine j_aload_n F.1 dX6_trims_38 rfl ?_
              refine j_iload_n F.1 dX6_trims_39 rfl ?_
              refine j_bipush F.1 (13) dX6_trims_40 (by decide) ?_
              refine j_callVi F (k_of (by omega) (by decide)) co_X6_of ml_X6_55 im_X6_of se_X6_of in_X6 rc_X6_of rfl (by decide) (by decide) ⟨by decide, rfl⟩ rfl rfl (Nat.le_of_ble_eq_true rfl) dX6_trims_42 ?_
              refine j_aload_n F.1 dX6_trims_45 rfl ?_
              refine j_iload_n F.1 dX6_trims_46 rfl ?_
              refine j_top e ?_
              refine j_bipush F.1 (13) dX6_trims_47 (by decide) ?_
              refine j_callVi F (k_of (by omega) (by decide)) co_X6_of ml_X6_55 im_X6_of se_X6_of in_X6 rc_X6_of rfl (by decide) (by decide) ⟨by decide, rfl⟩ rfl rfl (Nat.le_of_ble_eq_true rfl) dX6_trims_49 ?_
              refine j_icmp_ge F.1 59 dX6_trims_52 (by decide) (fun h52 => ?_) (fun h52 => ?_)
              · have ho : old (w 1) (t + 1) = old (w 1) t := if_neg (fun q => q.2.elim h35 (fun z => by rw [e, cN_nI hj] at z; exact Int32.not_lt.mpr h52 z))
                refine j_iload_n F.1 dX6_trims_59 rfl ?_
                refine j_top ho.symm ?_
                refine j_istore_n F.1 dX6_trims_60 (by rw [hn]; decide) ?_
                refine j_iinc F.1 (1) dX6_trims_61 (by decide) rfl (by rw [hn]; decide) ?_
                refine j_goto F.1 17 dX6_trims_64 (by decide) ?_
                refine j_loc [(2, .int (nI (t + 1))), (1, .int (old (w 1) (t + 1))), (0, .ref (Y.2.1 0))] (by rw [← nI_1]; rfl) ?_
                exact ih (t + 1) (by omega) (by omega)
              · have ho : old (w 1) (t + 1) = nI t := if_pos ⟨h31, Or.inr (by rw [e, cN_nI hj]; exact Int32.not_le.mp h52)⟩
                refine j_iload_n F.1 dX6_trims_55 rfl ?_
                refine j_goto F.1 60 dX6_trims_56 (by decide) ?_
                refine j_top ho.symm ?_
                refine j_istore_n F.1 dX6_trims_60 (by rw [hn]; decide) ?_
                refine j_iinc F.1 (1) dX6_trims_61 (by decide) rfl (by rw [hn]; decide) ?_
                refine j_goto F.1 17 dX6_trims_64 (by decide) ?_
                refine j_loc [(2, .int (nI (t + 1))), (1, .int (old (w 1) (t + 1))), (0, .ref (Y.2.1 0))] (by rw [← nI_1]; rfl) ?_
                exact ih (t + 1) (by omega) (by omega)
    exact loop 11 0 (by omega) (by omega)
  have outer : ∀ (m : Nat) (w : rcM) (K : Option Value → rcM → Prop), WF (w 1) → cntH (w 1) 10 ≤ m → K = rV (rcr w 1 (A_trim m (w 1))) → rcJ shM 13 Y X K 0 [(0, .ref (Y.2.1 0))] [] w := by
    intro m
    induction m with
    | zero =>
      intro w K hw hm hK
      refine j_aload_n F.1 dX6_trims_0 rfl ?_
      refine j_callVi F (k_remembered) co_X6_remembered ml_X6_133 im_X6_remembered se_X6_remembered in_X6 rc_X6_remembered rfl (by decide) (by decide) ⟨by decide, rfl⟩ rfl rfl (Nat.le_of_ble_eq_true rfl) dX6_trims_1 ?_
      refine j_aload_n F.1 dX6_trims_4 rfl ?_
      refine j_getr F (k := 0) inX6 rfl (by decide) fl_X6_7 ⟨by decide, rfl⟩ rfl dX6_trims_5 ?_
      refine j_iconst F.1 (5) dX6_trims_8 (by decide) ?_
      refine j_iald F ⟨by decide, rfl⟩ rfl (by decide) (by decide) dX6_trims_9 ?_
      refine j_icmp_le F.1 75 dX6_trims_10 (by decide) (fun h10 => ?_) (fun h10 => ?_)
      · exact j_vret F dX6_trims_75 ((by rw [hK]; exact rVe (by unfold A_trim; rw [rcr_self])))
      · exact absurd (by rw [remI_cnt (fun i hi => (hw.1 i hi).2.2.2.1) 10 (by decide), show cntH (w 1) 10 = 0 by omega]; exact Int32.le_iff_toInt_le.mpr (by rw [show (nI 0).toInt = 0 from rfl]; exact hw.2.2)) h10
    | succ m ih =>
      intro w K hw hm hK
      refine j_aload_n F.1 dX6_trims_0 rfl ?_
      refine j_callVi F (k_remembered) co_X6_remembered ml_X6_133 im_X6_remembered se_X6_remembered in_X6 rc_X6_remembered rfl (by decide) (by decide) ⟨by decide, rfl⟩ rfl rfl (Nat.le_of_ble_eq_true rfl) dX6_trims_1 ?_
      refine j_aload_n F.1 dX6_trims_4 rfl ?_
      refine j_getr F (k := 0) inX6 rfl (by decide) fl_X6_7 ⟨by decide, rfl⟩ rfl dX6_trims_5 ?_
      refine j_iconst F.1 (5) dX6_trims_8 (by decide) ?_
      refine j_iald F ⟨by decide, rfl⟩ rfl (by decide) (by decide) dX6_trims_9 ?_
      refine j_icmp_le F.1 75 dX6_trims_10 (by decide) (fun h10 => ?_) (fun h10 => ?_)
      · exact j_vret F dX6_trims_75 ((by rw [hK]; exact rVe (by rw [A_trim_s]; rw [if_neg (Int32.not_lt.mpr h10), rcr_self])))
      · obtain ⟨j, hj, e, e6⟩ : ∃ j, j < 10 ∧ old (w 1) 10 = nI j ∧ w 1 (ix j 6) = 1 := by
          rcases old_spec (f := w 1) 10 (by decide) with z | ⟨_, j, hj, e, e6⟩
          · rw [remI_cnt (fun i hi => (hw.1 i hi).2.2.2.1) 10 (by decide), z.1] at h10
            exact absurd (Int32.le_iff_toInt_le.mpr (by rw [show (nI 0).toInt = 0 from rfl]; exact hw.2.2)) h10
          · exact ⟨j, by omega, e, e6⟩
        refine j_iconst F.1 (-1) dX6_trims_13 (by decide) ?_
        refine j_istore_n F.1 dX6_trims_14 (by rw [hn]; decide) ?_
        refine j_iconst F.1 (0) dX6_trims_15 (by decide) ?_
        refine j_istore_n F.1 dX6_trims_16 (by rw [hn]; decide) ?_
        refine j_loc [(2, .int (nI (0))), (1, .int (old (w 1) (0))), (0, .ref (Y.2.1 0))] rfl ?_
        refine inner _ _ ?_
        refine j_aload_n F.1 dX6_trims_67 rfl ?_
        refine j_iload_n F.1 dX6_trims_68 rfl ?_
        refine j_top e ?_
        refine j_callVv F (k_drops hj) co_X6_drops ml_X6_137 im_X6_drops se_X6_drops in_X6 rc_X6_drops rfl (by decide) (by decide) ⟨by decide, rfl⟩ rfl rfl (Nat.le_of_ble_eq_true rfl) dX6_trims_69 ?_
        refine j_goto F.1 0 dX6_trims_72 (by decide) ?_
        refine j_loc [(0, .ref (Y.2.1 0))] rfl ?_
        refine ih (rcr w 1 (A_drop (w 1) j)) _ (by rw [rcr_s]; exact drop_wf hw) (by rw [rcr_s]; have := drop_cnt (f := w 1) (c := j) 10; rw [if_pos ⟨hj, e6⟩] at this; omega) ?_
        rw [hK, rcr_s, rcr_rcr]
        rw [A_trim_s]
        rw [if_pos (Int32.not_le.mp h10), e, cN_nI hj]
  exact outer 10 v _ hw (cntH_le 10) rfl
