/-! The class: remembered answers of a state. -/
theorem Rep.has {v : rcM} {k i : Nat} {f : Nat → Int32} (h : Rep v k f) (hi : i < 10) : rcb (v (cid k i) 2) = f (ix i 6) := (h.1 i hi).2.2.1
theorem rcb_ne {x y : Int32} (h : rcb x = y) (hy : ¬ y = 0) : y = 1 := by
  unfold rcb at h
  split at h
  · exact absurd h.symm hy
  · exact h.symm
theorem Rep.has1 {v : rcM} {k i : Nat} {f : Nat → Int32} (h : Rep v k f) (hi : i < 10) (hn : ¬ rcb (v (cid k i) 2) = 0) : f (ix i 6) = 1 := rcb_ne (h.has hi) (by rw [← h.has hi]; exact hn)
theorem Rep.has0 {v : rcM} {k i : Nat} {f : Nat → Int32} (h : Rep v k f) (hi : i < 10) (hn : rcb (v (cid k i) 2) = 0) : f (ix i 6) = 0 := by rw [← h.has hi]; exact hn
theorem Rep.use {v : rcM} {k i : Nat} {f : Nat → Int32} (h : Rep v k f) (hi : i < 10) (h1 : f (ix i 6) = 1) : v (cid k i) 6 = f (ix i 13) := ((h.1 i hi).2.2.2 h1).2.2.2.1
set_option maxHeartbeats 4000000 in
set_option maxRecDepth 100000 in
theorem c_remembered {Y : rcY} {la : Launch} {v : rcM} {k : Nat} {f : Nat → Int32} (hk : k < 6) (hR : Rep v k f) : rcT shC 139 Y la 0 (yX3_rememberedAnswers, cX3_rememberedAnswers, 3, (some .int)) [.ref (Y.2.1 (sid k))] (v) (rI (remI f 10) v) := by
  refine rcT.of (by decide +kernel) (Nat.le_of_ble_eq_true rfl) (fun X F hn => ?_)
  have loop : ∀ r t : Nat, t ≤ 10 → 10 < t + r → rcJ shC 139 Y X (rI (remI f 10) v) 4 [(2, .int (nI (t))), (1, .int (remI f (t))), (0, .ref (Y.2.1 (sid k)))] [] v := by
    intro r
    induction r with
    | zero => intro t ht hr; omega
    | succ r ih =>
      intro t ht hr
      refine j_iload_n F.1 dX3_rememberedAnswers_4 rfl ?_
      refine j_bipush F.1 (10) dX3_rememberedAnswers_5 (by decide) ?_
      refine j_icmp_ge F.1 31 dX3_rememberedAnswers_7 (by decide) (fun h7 => ?_) (fun h7 => ?_)
      · have q7 : 10 ≤ t := (nI_leI (a := 10) (b := t) (by omega) (by omega)).mp h7
        refine j_iload_n F.1 dX3_rememberedAnswers_31 rfl ?_
        exact j_iret F dX3_rememberedAnswers_32 ((rIe (by rw [Nat.le_antisymm ht q7]) rfl))
      · have q7 : t < 10 := Nat.lt_of_not_le (fun z => h7 ((nI_leI (a := 10) (b := t) (by omega) (by omega)).mpr z))
        refine j_aload_n F.1 dX3_rememberedAnswers_10 rfl ?_
        refine j_getr F (k := 0) inX3 rfl (by decide) fl_X3_11 (sh_st hk) rfl dX3_rememberedAnswers_11 ?_
        refine j_iload_n F.1 dX3_rememberedAnswers_14 rfl ?_
        refine j_aald3 F (sh_arr hk) rfl (by omega) (by decide) dX3_rememberedAnswers_15 ?_
        refine j_getz F (k := 2) inX0 rfl (by decide) fl_X3_66 (sh_cell hk (by omega)) rfl dX3_rememberedAnswers_16 ?_
        refine j_if_eq F.1 25 dX3_rememberedAnswers_19 (by decide) (fun h19 => ?_) (fun h19 => ?_)
        · have ho : remI f (t + 1) = remI f t := by show remI f t + f (ix t 6) = _; rw [hR.has0 (by omega) h19]; exact Int32.add_zero _
          refine j_iinc F.1 (1) dX3_rememberedAnswers_25 (by decide) rfl (by rw [hn]; decide) ?_
          refine j_goto F.1 4 dX3_rememberedAnswers_28 (by decide) ?_
          refine j_loc [(2, .int (nI (t + 1))), (1, .int (remI f (t + 1))), (0, .ref (Y.2.1 (sid k)))] (by rw [ho, ← nI_1]; rfl) ?_
          exact ih (t + 1) (by omega) (by omega)
        · have ho : remI f (t + 1) = remI f t + 1 := by show remI f t + f (ix t 6) = _; rw [hR.has1 (by omega) h19]
          refine j_iinc F.1 (1) dX3_rememberedAnswers_22 (by decide) rfl (by rw [hn]; decide) ?_
          refine j_iinc F.1 (1) dX3_rememberedAnswers_25 (by decide) rfl (by rw [hn]; decide) ?_
          refine j_goto F.1 4 dX3_rememberedAnswers_28 (by decide) ?_
          refine j_loc [(2, .int (nI (t + 1))), (1, .int (remI f (t + 1))), (0, .ref (Y.2.1 (sid k)))] (by rw [ho, ← nI_1]; rfl) ?_
          exact ih (t + 1) (by omega) (by omega)
  refine j_iconst F.1 (0) dX3_rememberedAnswers_0 (by decide) ?_
  refine j_istore_n F.1 dX3_rememberedAnswers_1 (by rw [hn]; decide) ?_
  refine j_iconst F.1 (0) dX3_rememberedAnswers_2 (by decide) ?_
  refine j_istore_n F.1 dX3_rememberedAnswers_3 (by rw [hn]; decide) ?_
  refine j_loc [(2, .int (nI (0))), (1, .int (remI f (0))), (0, .ref (Y.2.1 (sid k)))] rfl ?_
  exact loop 11 0 (by omega) (by omega)
set_option maxHeartbeats 4000000 in
set_option maxRecDepth 100000 in
theorem c_placeOf {Y : rcY} {la : Launch} {v : rcM} {k : Nat} {f : Nat → Int32} (hk : k < 6) (hR : Rep v k f) {i : Nat} (hi : i < 10) (h6 : f (ix i 6) = 1) : rcT shC 139 Y la 0 (yX3_placeOf, cX3_placeOf, 4, (some .int)) [.ref (Y.2.1 (sid k)), .int (nI i)] (v) (rI (plc f i 10) v) := by
  refine rcT.of (by decide +kernel) (Nat.le_of_ble_eq_true rfl) (fun X F hn => ?_)
  have loop : ∀ r t : Nat, t ≤ 10 → 10 < t + r → rcJ shC 139 Y X (rI (plc f i 10) v) 4 [(3, .int (nI (t))), (2, .int (plc f i (t))), (0, .ref (Y.2.1 (sid k))), (1, .int (nI i))] [] v := by
    intro r
    induction r with
    | zero => intro t ht hr; omega
    | succ r ih =>
      intro t ht hr
      refine j_iload_n F.1 dX3_placeOf_4 rfl ?_
      refine j_bipush F.1 (10) dX3_placeOf_5 (by decide) ?_
      refine j_icmp_ge F.1 52 dX3_placeOf_7 (by decide) (fun h7 => ?_) (fun h7 => ?_)
      · have q7 : 10 ≤ t := (nI_leI (a := 10) (b := t) (by omega) (by omega)).mp h7
        refine j_iload_n F.1 dX3_placeOf_52 rfl ?_
        exact j_iret F dX3_placeOf_53 ((rIe (by rw [Nat.le_antisymm ht q7]) rfl))
      · have q7 : t < 10 := Nat.lt_of_not_le (fun z => h7 ((nI_leI (a := 10) (b := t) (by omega) (by omega)).mpr z))
        refine j_aload_n F.1 dX3_placeOf_10 rfl ?_
        refine j_getr F (k := 0) inX3 rfl (by decide) fl_X3_11 (sh_st hk) rfl dX3_placeOf_11 ?_
        refine j_iload_n F.1 dX3_placeOf_14 rfl ?_
        refine j_aald3 F (sh_arr hk) rfl (by omega) (by decide) dX3_placeOf_15 ?_
        refine j_getz F (k := 2) inX0 rfl (by decide) fl_X3_66 (sh_cell hk (by omega)) rfl dX3_placeOf_16 ?_
        refine j_if_eq F.1 46 dX3_placeOf_19 (by decide) (fun h19 => ?_) (fun h19 => ?_)
        · have hp : plc f i (t + 1) = plc f i t := by show plc f i t + (if f (ix t 6) = 1 ∧ f (ix t 13) < f (ix i 13) then 1 else 0) = _; rw [if_neg (fun q => by rw [hR.has0 (by omega) h19] at q; exact absurd q.1 (by decide))]; exact Int32.add_zero _
          refine j_iinc F.1 (1) dX3_placeOf_46 (by decide) rfl (by rw [hn]; decide) ?_
          refine j_goto F.1 4 dX3_placeOf_49 (by decide) ?_
          refine j_loc [(3, .int (nI (t + 1))), (2, .int (plc f i (t + 1))), (0, .ref (Y.2.1 (sid k))), (1, .int (nI i))] (by rw [hp, ← nI_1]; rfl) ?_
          exact ih (t + 1) (by omega) (by omega)
        · have h1 := hR.has1 (by omega) h19
          refine j_aload_n F.1 dX3_placeOf_22 rfl ?_
          refine j_getr F (k := 0) inX3 rfl (by decide) fl_X3_11 (sh_st hk) rfl dX3_placeOf_23 ?_
          refine j_iload_n F.1 dX3_placeOf_26 rfl ?_
          refine j_aald3 F (sh_arr hk) rfl (by omega) (by decide) dX3_placeOf_27 ?_
          refine j_geti F (k := 6) inX0 rfl (by decide) fl_X3_70 (sh_cell hk (by omega)) rfl dX3_placeOf_28 ?_
          refine j_aload_n F.1 dX3_placeOf_31 rfl ?_
          refine j_getr F (k := 0) inX3 rfl (by decide) fl_X3_11 (sh_st hk) rfl dX3_placeOf_32 ?_
          refine j_iload_n F.1 dX3_placeOf_35 rfl ?_
          refine j_aald3 F (sh_arr hk) rfl hi (by decide) dX3_placeOf_36 ?_
          refine j_geti F (k := 6) inX0 rfl (by decide) fl_X3_70 (sh_cell hk hi) rfl dX3_placeOf_37 ?_
          refine j_icmp_ge F.1 46 dX3_placeOf_40 (by decide) (fun h40 => ?_) (fun h40 => ?_)
          · have hp : plc f i (t + 1) = plc f i t := by show plc f i t + (if f (ix t 6) = 1 ∧ f (ix t 13) < f (ix i 13) then 1 else 0) = _; rw [if_neg (fun q => by rw [hR.use (by omega) h1, hR.use hi h6] at h40; exact Int32.not_lt.mpr h40 q.2)]; exact Int32.add_zero _
            refine j_iinc F.1 (1) dX3_placeOf_46 (by decide) rfl (by rw [hn]; decide) ?_
            refine j_goto F.1 4 dX3_placeOf_49 (by decide) ?_
            refine j_loc [(3, .int (nI (t + 1))), (2, .int (plc f i (t + 1))), (0, .ref (Y.2.1 (sid k))), (1, .int (nI i))] (by rw [hp, ← nI_1]; rfl) ?_
            exact ih (t + 1) (by omega) (by omega)
          · have hp : plc f i (t + 1) = plc f i t + 1 := by show plc f i t + (if f (ix t 6) = 1 ∧ f (ix t 13) < f (ix i 13) then 1 else 0) = _; rw [if_pos ⟨h1, by rw [hR.use (by omega) h1, hR.use hi h6] at h40; exact Int32.not_le.mp h40⟩]
            refine j_iinc F.1 (1) dX3_placeOf_43 (by decide) rfl (by rw [hn]; decide) ?_
            refine j_iinc F.1 (1) dX3_placeOf_46 (by decide) rfl (by rw [hn]; decide) ?_
            refine j_goto F.1 4 dX3_placeOf_49 (by decide) ?_
            refine j_loc [(3, .int (nI (t + 1))), (2, .int (plc f i (t + 1))), (0, .ref (Y.2.1 (sid k))), (1, .int (nI i))] (by rw [hp, ← nI_1]; rfl) ?_
            exact ih (t + 1) (by omega) (by omega)
  refine j_iconst F.1 (0) dX3_placeOf_0 (by decide) ?_
  refine j_istore_n F.1 dX3_placeOf_1 (by rw [hn]; decide) ?_
  refine j_iconst F.1 (0) dX3_placeOf_2 (by decide) ?_
  refine j_istore_n F.1 dX3_placeOf_3 (by rw [hn]; decide) ?_
  refine j_loc [(3, .int (nI (0))), (2, .int (plc f i (0))), (0, .ref (Y.2.1 (sid k))), (1, .int (nI i))] rfl ?_
  exact loop 11 0 (by omega) (by omega)
def forg (v : rcM) (k i : Nat) : rcM := rcu (rcu v (cid k i) 2 0) (sid k) 6 (v (sid k) 6 + 1)
theorem forg_c {v : rcM} {k i j : Nat} (h : j ≠ 2) : forg v k i (cid k i) j = v (cid k i) j := by
  unfold forg
  rw [rcu_ne ne_sc.symm, rcu_k h]
theorem forg_c2 {v : rcM} {k i : Nat} : forg v k i (cid k i) 2 = 0 := by
  unfold forg
  rw [rcu_ne ne_sc.symm, rcu_self]
theorem forg_o {v : rcM} {k i id : Nat} (h : id ≠ sid k) (h1 : id ≠ cid k i) : forg v k i id = v id := by
  unfold forg
  rw [rcu_ne h, rcu_ne h1]
theorem forg_s {v : rcM} {k i j : Nat} : forg v k i (sid k) j = if j = 6 then v (sid k) 6 + 1 else v (sid k) j := by
  unfold forg
  by_cases h : j = 6
  · subst h; rw [rcu_self]; rfl
  · rw [rcu_k h, rcu_ne ne_sc, if_neg h]
theorem forg_Kp {v : rcM} {k i : Nat} (hi : i < 10) : Kp v (forg v k i) k := by
  refine ⟨fun id hid => ?_, fun j hj => ?_, ?_⟩
  · unfold Blk at hid
    exact forg_o (by show id ≠ 22 * k + 7; omega) (by show id ≠ i + (22 * k + 9); omega)
  · by_cases e : j = i
    · subst e; exact forg_c (by decide)
    · rw [forg_o ne_sc.symm (by show j + (22 * k + 9) ≠ i + (22 * k + 9); omega)]
  · rw [forg_s]; rfl
theorem forg_rep {v : rcM} {k i : Nat} {f : Nat → Int32} (h : Rep v k f) (hi : i < 10) : Rep (forg v k i) k (A_drop f i) := by
  refine ⟨fun j hj => ?_, ?_⟩
  · by_cases q : j = i
    · subst q
      have hc := h.1 j hj
      have hd : forg v k j (cid k j + 10) = v (cid k j + 10) := forg_o (show j + (22 * k + 9) + 10 ≠ 22 * k + 7 by omega) (ne_cd hj).symm
      unfold RpC at *
      rw [hd, forg_c2, forg_c (by decide), drop_d (by decide), drop_d (by decide), drop_d (by decide), drop_d (by decide), drop_d (by decide), drop_d (by decide), drop_6 (j := 6) (by decide) (by decide)]
      exact ⟨hc.1, hc.2.1, rfl, fun z => absurd z (by decide)⟩
    · refine (h.1 j hj).congr (forg_o ne_sc.symm ?_) (forg_o ?_ ?_) (fun w hw => drop_c q hw)
      · show j + (22 * k + 9) ≠ i + (22 * k + 9); omega
      · show j + (22 * k + 9) + 10 ≠ 22 * k + 7; omega
      · show j + (22 * k + 9) + 10 ≠ i + (22 * k + 9); omega
  · obtain ⟨s1, s2, s3, s4, s5, s6, s7, s8⟩ := h.2
    unfold RpS
    have d4 : A_drop f i 4 = f 4 + 1 := by unfold A_drop; rw [pk_us]
    rw [d4, forg_s, forg_s, forg_s, forg_s, forg_s, forg_s, forg_s, forg_s, drop_g (by decide) (by decide), drop_g (by decide) (by decide), drop_g (by decide) (by decide), drop_g (by decide) (by decide), drop_g (by decide) (by decide), drop_g (by decide) (by decide), drop_g (by decide) (by decide), ← s6]
    exact ⟨s1, s2, s3, s4, s5, rfl, s7, s8⟩
set_option maxHeartbeats 4000000 in
set_option maxRecDepth 100000 in
theorem c_forgetAnswer {Y : rcY} {la : Launch} {v : rcM} {k : Nat} {f : Nat → Int32} (hk : k < 6) (hR : Rep v k f) {i : Nat} (hi : i < 10) : rcT shC 139 Y la 0 (yX3_forgetAnswer, cX3_forgetAnswer, 2, none) [.ref (Y.2.1 (sid k)), .int (nI i)] (v) (KD v k (A_drop f i)) := by
  refine rcT.of (by decide +kernel) (Nat.le_of_ble_eq_true rfl) (fun X F hn => ?_)
  refine j_aload_n F.1 dX3_forgetAnswer_0 rfl ?_
  refine j_getr F (k := 0) inX3 rfl (by decide) fl_X3_11 (sh_st hk) rfl dX3_forgetAnswer_1 ?_
  refine j_iload_n F.1 dX3_forgetAnswer_4 rfl ?_
  refine j_aald3 F (sh_arr hk) rfl hi (by decide) dX3_forgetAnswer_5 ?_
  refine j_iconst F.1 (0) dX3_forgetAnswer_6 (by decide) ?_
  refine j_putz F (k := 2) inX0 tyX0_ok nmX0 rfl (by decide) fl_X3_66 rfl rfl (sh_cell hk hi) rfl (by first | exact Or.inl rfl | exact Or.inr rfl | exact rcb_01 _) dX3_forgetAnswer_7 ?_
  refine j_aload_n F.1 dX3_forgetAnswer_10 rfl ?_
  refine j_dup F.1 dX3_forgetAnswer_11 rfl ?_
  refine j_geti F (k := 6) inX3 rfl (by decide) fl_X3_38 (sh_st hk) rfl dX3_forgetAnswer_12 ?_
  refine j_iconst F.1 (1) dX3_forgetAnswer_15 (by decide) ?_
  refine j_iadd F.1 dX3_forgetAnswer_16 ?_
  refine j_top (y := v (sid k) 6 + 1) (by rw [rcu_ne ne_sc]) ?_
  refine j_puti F (k := 6) inX3 tyX3_ok nmX3 rfl (by decide) fl_X3_38 rfl rfl (sh_st hk) rfl dX3_forgetAnswer_17 ?_
  exact j_vret F dX3_forgetAnswer_20 ⟨rfl, forg_rep hR hi, forg_Kp hi⟩
/-- no answer is remembered -/
def FD (f : Nat → Int32) : Nat → Int32 := fun j => if 8 ≤ j ∧ (j - 8) % 15 = 6 then 0 else f j
theorem FD_6 {f : Nat → Int32} {i : Nat} : FD f (ix i 6) = 0 := by unfold FD ix; rw [if_pos (by omega)]
theorem FD_n {f : Nat → Int32} {i j : Nat} (hj : j < 15) (h : j ≠ 6) : FD f (ix i j) = f (ix i j) := by unfold FD ix; rw [if_neg (by omega)]
theorem FD_g {f : Nat → Int32} {k : Nat} (hk : k < 8) : FD f k = f k := by unfold FD; rw [if_neg (by omega)]
def dropM (v : rcM) (k t : Nat) : rcM := fun id j => if j = 2 ∧ 22 * k + 9 ≤ id ∧ id < 22 * k + 9 + t then 0 else v id j
theorem dropM_0 {v : rcM} {k : Nat} : dropM v k 0 = v := by
  funext id j
  unfold dropM
  rw [if_neg (by omega)]
theorem dropM_s {v : rcM} {k t : Nat} : rcu (dropM v k t) (cid k t) 2 0 = dropM v k (t + 1) := by
  funext id j
  unfold dropM rcu
  by_cases e : id = cid k t ∧ j = 2
  · rw [if_pos e, if_pos]
    obtain ⟨e1, e2⟩ := e
    refine ⟨e2, ?_⟩
    rw [e1]
    show 22 * k + 9 ≤ t + (22 * k + 9) ∧ t + (22 * k + 9) < 22 * k + 9 + (t + 1)
    omega
  · rw [if_neg e]
    dsimp only
    by_cases h : j = 2 ∧ 22 * k + 9 ≤ id ∧ id < 22 * k + 9 + t
    · rw [if_pos h, if_pos (by omega)]
    · rw [if_neg h, if_neg]
      rintro ⟨h1, h2, h3⟩
      refine e ⟨?_, h1⟩
      show id = t + (22 * k + 9)
      omega
theorem dropM_o {v : rcM} {k id : Nat} (h : ¬ (22 * k + 9 ≤ id ∧ id < 22 * k + 19)) : dropM v k 10 id = v id := by
  funext j
  unfold dropM
  rw [if_neg (by omega)]
theorem dropM_c {v : rcM} {k i j : Nat} (h : j ≠ 2) : dropM v k 10 (cid k i) j = v (cid k i) j := by
  unfold dropM
  rw [if_neg (fun z => h z.1)]
theorem dropM_c2 {v : rcM} {k i : Nat} (hi : i < 10) : dropM v k 10 (cid k i) 2 = 0 := by
  unfold dropM
  rw [if_pos]
  refine ⟨rfl, ?_⟩
  show 22 * k + 9 ≤ i + (22 * k + 9) ∧ i + (22 * k + 9) < 22 * k + 9 + 10
  omega
theorem dropM_rep {v : rcM} {k : Nat} {f : Nat → Int32} (h : Rep v k f) : Rep (dropM v k 10) k (FD f) := by
  refine ⟨fun j hj => ?_, ?_⟩
  · have hc := h.1 j hj
    have hd : dropM v k 10 (cid k j + 10) = v (cid k j + 10) := dropM_o (show ¬ (22 * k + 9 ≤ j + (22 * k + 9) + 10 ∧ j + (22 * k + 9) + 10 < 22 * k + 19) by omega)
    unfold RpC at *
    rw [hd, dropM_c2 hj, dropM_c (by decide), FD_6, FD_n (by decide) (by decide), FD_n (by decide) (by decide), FD_n (by decide) (by decide), FD_n (by decide) (by decide), FD_n (by decide) (by decide), FD_n (by decide) (by decide)]
    exact ⟨hc.1, hc.2.1, rfl, fun z => absurd z (by decide)⟩
  · have q := h.2
    have hd : dropM v k 10 (sid k) = v (sid k) := dropM_o (show ¬ (22 * k + 9 ≤ 22 * k + 7 ∧ 22 * k + 7 < 22 * k + 19) by omega)
    unfold RpS at *
    rw [hd, FD_g (by decide), FD_g (by decide), FD_g (by decide), FD_g (by decide), FD_g (by decide), FD_g (by decide), FD_g (by decide), FD_g (by decide)]
    exact q
theorem dropM_Kp {v : rcM} {k : Nat} : Kp v (dropM v k 10) k := by
  refine ⟨fun id hid => dropM_o (by unfold Blk at hid; omega), fun j hj => dropM_c (by decide), ?_⟩
  rw [dropM_o (show ¬ (22 * k + 9 ≤ 22 * k + 7 ∧ 22 * k + 7 < 22 * k + 19) by omega)]
set_option maxHeartbeats 4000000 in
set_option maxRecDepth 100000 in
theorem c_dropAnswers {Y : rcY} {la : Launch} {v : rcM} {k : Nat} {f : Nat → Int32} (hk : k < 6) (hR : Rep v k f) : rcT shC 139 Y la 0 (yX3_dropAnswers, cX3_dropAnswers, 2, none) [.ref (Y.2.1 (sid k))] (v) (KD v k (FD f)) := by
  refine rcT.of (by decide +kernel) (Nat.le_of_ble_eq_true rfl) (fun X F hn => ?_)
  have loop : ∀ r t : Nat, t ≤ 10 → 10 < t + r → rcJ shC 139 Y X (KD v k (FD f)) 2 [(1, .int (nI (t))), (0, .ref (Y.2.1 (sid k)))] [] (dropM v k (t)) := by
    intro r
    induction r with
    | zero => intro t ht hr; omega
    | succ r ih =>
      intro t ht hr
      refine j_iload_n F.1 dX3_dropAnswers_2 rfl ?_
      refine j_bipush F.1 (10) dX3_dropAnswers_3 (by decide) ?_
      refine j_icmp_ge F.1 24 dX3_dropAnswers_5 (by decide) (fun h5 => ?_) (fun h5 => ?_)
      · have q5 : 10 ≤ t := (nI_leI (a := 10) (b := t) (by omega) (by omega)).mp h5
        exact j_vret F dX3_dropAnswers_24 ((by rw [Nat.le_antisymm ht q5]; exact ⟨rfl, dropM_rep hR, dropM_Kp⟩))
      · have q5 : t < 10 := Nat.lt_of_not_le (fun z => h5 ((nI_leI (a := 10) (b := t) (by omega) (by omega)).mpr z))
        refine j_aload_n F.1 dX3_dropAnswers_8 rfl ?_
        refine j_getr F (k := 0) inX3 rfl (by decide) fl_X3_11 (sh_st hk) rfl dX3_dropAnswers_9 ?_
        refine j_iload_n F.1 dX3_dropAnswers_12 rfl ?_
        refine j_aald3 F (sh_arr hk) rfl (by omega) (by decide) dX3_dropAnswers_13 ?_
        refine j_iconst F.1 (0) dX3_dropAnswers_14 (by decide) ?_
        refine j_putz F (k := 2) inX0 tyX0_ok nmX0 rfl (by decide) fl_X3_66 rfl rfl (sh_cell hk (by omega)) rfl (by first | exact Or.inl rfl | exact Or.inr rfl | exact rcb_01 _) dX3_dropAnswers_15 ?_
        refine j_iinc F.1 (1) dX3_dropAnswers_18 (by decide) rfl (by rw [hn]; decide) ?_
        refine j_goto F.1 2 dX3_dropAnswers_21 (by decide) ?_
        refine j_loc [(1, .int (nI (t + 1))), (0, .ref (Y.2.1 (sid k)))] (by rw [← nI_1]; rfl) ?_
        rw [dropM_s]
        exact ih (t + 1) (by omega) (by omega)
  refine j_iconst F.1 (0) dX3_dropAnswers_0 (by decide) ?_
  refine j_istore_n F.1 dX3_dropAnswers_1 (by rw [hn]; decide) ?_
  refine j_loc [(1, .int (nI (0))), (0, .ref (Y.2.1 (sid k)))] rfl ?_
  have e := loop 11 0 (by omega) (by omega)
  rw [dropM_0] at e
  exact e
set_option maxHeartbeats 4000000 in
set_option maxRecDepth 100000 in
theorem c_forgetOldest {Y : rcY} {la : Launch} {v : rcM} {k : Nat} {f : Nat → Int32} (hk : k < 6) (hR : Rep v k f) (hc : 0 < cntH f 10) : rcT shC 139 Y la 1 (yX3_forgetOldest, cX3_forgetOldest, 3, none) [.ref (Y.2.1 (sid k))] (v) (KD v k (A_drop f (cN (old f 10)))) := by
  refine rcT.of (by decide +kernel) (Nat.le_of_ble_eq_true rfl) (fun X F hn => ?_)
  have loop : ∀ r t : Nat, t ≤ 10 → 10 < t + r → rcJ shC 139 Y X (KD v k (A_drop f (cN (old f 10)))) 4 [(2, .int (nI (t))), (1, .int (old f (t))), (0, .ref (Y.2.1 (sid k)))] [] v := by
    intro r
    induction r with
    | zero => intro t ht hr; omega
    | succ r ih =>
      intro t ht hr
      refine j_iload_n F.1 dX3_forgetOldest_4 rfl ?_
      refine j_bipush F.1 (10) dX3_forgetOldest_5 (by decide) ?_
      refine j_icmp_ge F.1 56 dX3_forgetOldest_7 (by decide) (fun h7 => ?_) (fun h7 => ?_)
      · have q7 : 10 ≤ t := (nI_leI (a := 10) (b := t) (by omega) (by omega)).mp h7
        have t10 : t = 10 := by omega
        subst t10
        obtain ⟨j, hj, e, e6⟩ : ∃ j, j < 10 ∧ old f 10 = nI j ∧ f (ix j 6) = 1 := by
          rcases old_spec (f := f) 10 (by decide) with z | ⟨_, j, hj, e, e6⟩
          · exact absurd z.1 (by omega)
          · exact ⟨j, by omega, e, e6⟩
        refine j_iload_n F.1 dX3_forgetOldest_56 rfl ?_
        refine j_iconst F.1 (-1) dX3_forgetOldest_57 (by decide) ?_
        refine j_icmp_eq F.1 66 dX3_forgetOldest_58 (by decide) (fun h58 => ?_) (fun h58 => ?_)
        · exact absurd (show nI j < 0 by rw [← e, h58]; decide) (nI_pos (by omega))
        · refine j_aload_n F.1 dX3_forgetOldest_61 rfl ?_
          refine j_iload_n F.1 dX3_forgetOldest_62 rfl ?_
          refine j_top e ?_
          refine j_callV F (c_forgetAnswer hk hR hj) co_X3_forgetAnswer ml_X3_80 im_X3_forgetAnswer se_X3_forgetAnswer in_X3 rc_X3_forgetAnswer rfl (by decide) (by decide) (sh_st hk) rfl rfl (Nat.le_of_ble_eq_true rfl) dX3_forgetOldest_63 (fun r u hr => ?_)
          obtain ⟨rfl, hr2⟩ := hr
          refine j_vret F dX3_forgetOldest_66 ?_
          rw [e, cN_nI hj]
          exact ⟨rfl, hr2⟩
      · have q7 : t < 10 := Nat.lt_of_not_le (fun z => h7 ((nI_leI (a := 10) (b := t) (by omega) (by omega)).mpr z))
        refine j_aload_n F.1 dX3_forgetOldest_10 rfl ?_
        refine j_getr F (k := 0) inX3 rfl (by decide) fl_X3_11 (sh_st hk) rfl dX3_forgetOldest_11 ?_
        refine j_iload_n F.1 dX3_forgetOldest_14 rfl ?_
        refine j_aald3 F (sh_arr hk) rfl (by omega) (by decide) dX3_forgetOldest_15 ?_
        refine j_getz F (k := 2) inX0 rfl (by decide) fl_X3_66 (sh_cell hk (by omega)) rfl dX3_forgetOldest_16 ?_
        refine j_if_eq F.1 50 dX3_forgetOldest_19 (by decide) (fun h19 => ?_) (fun h19 => ?_)
        · have ho : old f (t + 1) = old f t := if_neg (fun q => by rw [hR.has0 (by omega) h19] at q; exact absurd q.1 (by decide))
          refine j_iinc F.1 (1) dX3_forgetOldest_50 (by decide) rfl (by rw [hn]; decide) ?_
          refine j_goto F.1 4 dX3_forgetOldest_53 (by decide) ?_
          refine j_loc [(2, .int (nI (t + 1))), (1, .int (old f (t + 1))), (0, .ref (Y.2.1 (sid k)))] (by rw [ho, ← nI_1]; rfl) ?_
          exact ih (t + 1) (by omega) (by omega)
        · have h1 := hR.has1 (by omega) h19
          refine j_iload_n F.1 dX3_forgetOldest_22 rfl ?_
          refine j_iconst F.1 (-1) dX3_forgetOldest_23 (by decide) ?_
          refine j_icmp_eq F.1 48 dX3_forgetOldest_24 (by decide) (fun h24 => ?_) (fun h24 => ?_)
          · have ho : old f (t + 1) = nI t := if_pos ⟨h1, Or.inl (by rw [h24]; decide)⟩
            refine j_iload_n F.1 dX3_forgetOldest_48 rfl ?_
            refine j_istore_n F.1 dX3_forgetOldest_49 (by rw [hn]; decide) ?_
            refine j_iinc F.1 (1) dX3_forgetOldest_50 (by decide) rfl (by rw [hn]; decide) ?_
            refine j_goto F.1 4 dX3_forgetOldest_53 (by decide) ?_
            refine j_loc [(2, .int (nI (t + 1))), (1, .int (old f (t + 1))), (0, .ref (Y.2.1 (sid k)))] (by rw [ho, ← nI_1]; rfl) ?_
            exact ih (t + 1) (by omega) (by omega)
          · obtain ⟨j, hj, e, e6⟩ : ∃ j, j < 10 ∧ old f t = nI j ∧ f (ix j 6) = 1 := by
              rcases old_spec (f := f) t (by omega) with z | ⟨_, j, hj, e, e6⟩
              · exact absurd z.2 h24
              · exact ⟨j, by omega, e, e6⟩
            refine j_aload_n F.1 dX3_forgetOldest_27 rfl ?_
            refine j_getr F (k := 0) inX3 rfl (by decide) fl_X3_11 (sh_st hk) rfl dX3_forgetOldest_28 ?_
            refine j_iload_n F.1 dX3_forgetOldest_31 rfl ?_
            refine j_aald3 F (sh_arr hk) rfl (by omega) (by decide) dX3_forgetOldest_32 ?_
            refine j_geti F (k := 6) inX0 rfl (by decide) fl_X3_70 (sh_cell hk (by omega)) rfl dX3_forgetOldest_33 ?_
            refine j_aload_n F.1 dX3_forgetOldest_36 rfl ?_
            refine j_getr F (k := 0) inX3 rfl (by decide) fl_X3_11 (sh_st hk) rfl dX3_forgetOldest_37 ?_
            refine j_iload_n F.1 dX3_forgetOldest_40 rfl ?_
            refine j_top e ?_
            refine j_aald3 F (sh_arr hk) rfl hj (by decide) dX3_forgetOldest_41 ?_
            refine j_geti F (k := 6) inX0 rfl (by decide) fl_X3_70 (sh_cell hk hj) rfl dX3_forgetOldest_42 ?_
            refine j_icmp_ge F.1 50 dX3_forgetOldest_45 (by decide) (fun h45 => ?_) (fun h45 => ?_)
            · have ho : old f (t + 1) = old f t := if_neg (fun q => q.2.elim (fun z => by rw [e] at z; exact nI_pos (by omega) z) (fun z => by rw [e, cN_nI hj] at z; rw [hR.use (by omega) h1, hR.use hj e6] at h45; exact Int32.not_lt.mpr h45 z))
              refine j_iinc F.1 (1) dX3_forgetOldest_50 (by decide) rfl (by rw [hn]; decide) ?_
              refine j_goto F.1 4 dX3_forgetOldest_53 (by decide) ?_
              refine j_loc [(2, .int (nI (t + 1))), (1, .int (old f (t + 1))), (0, .ref (Y.2.1 (sid k)))] (by rw [ho, ← nI_1]; rfl) ?_
              exact ih (t + 1) (by omega) (by omega)
            · have ho : old f (t + 1) = nI t := if_pos ⟨h1, Or.inr (by rw [e, cN_nI hj]; rw [hR.use (by omega) h1, hR.use hj e6] at h45; exact Int32.not_le.mp h45)⟩
              refine j_iload_n F.1 dX3_forgetOldest_48 rfl ?_
              refine j_istore_n F.1 dX3_forgetOldest_49 (by rw [hn]; decide) ?_
              refine j_iinc F.1 (1) dX3_forgetOldest_50 (by decide) rfl (by rw [hn]; decide) ?_
              refine j_goto F.1 4 dX3_forgetOldest_53 (by decide) ?_
              refine j_loc [(2, .int (nI (t + 1))), (1, .int (old f (t + 1))), (0, .ref (Y.2.1 (sid k)))] (by rw [ho, ← nI_1]; rfl) ?_
              exact ih (t + 1) (by omega) (by omega)
  refine j_iconst F.1 (-1) dX3_forgetOldest_0 (by decide) ?_
  refine j_istore_n F.1 dX3_forgetOldest_1 (by rw [hn]; decide) ?_
  refine j_iconst F.1 (0) dX3_forgetOldest_2 (by decide) ?_
  refine j_istore_n F.1 dX3_forgetOldest_3 (by rw [hn]; decide) ?_
  refine j_loc [(2, .int (nI (0))), (1, .int (old f (0))), (0, .ref (Y.2.1 (sid k)))] rfl ?_
  exact loop 11 0 (by omega) (by omega)
theorem sub_cmp {b : Int32} {n i : Nat} (hb : 0 ≤ b.toInt) (hn : n ≤ 10) (hi : i ≤ 10) : nI n - b ≤ nI i ↔ ¬ b < nI (n - i) := by
  have e1 : (nI n - b).toInt = n - b.toInt := by
    rw [Int32.toInt_sub, nI_toInt (by omega)]
    have := b.toInt_lt
    exact Int.bmod_eq_of_le (by omega) (by omega)
  rw [Int32.le_iff_toInt_le, Int32.lt_iff_toInt_lt, e1, nI_toInt (by omega), nI_toInt (by omega)]
  omega
theorem trim_done {f : Nat → Int32} {m : Nat} (h : ¬ f 5 < remI f 10) : A_trim m f = f := by
  cases m with
  | zero => rfl
  | succ m => rw [A_trim_s, if_neg h]
set_option maxHeartbeats 4000000 in
set_option maxRecDepth 100000 in
theorem c_forgetBeyond {Y : rcY} {la : Launch} {v : rcM} {k : Nat} {f : Nat → Int32} (hk : k < 6) (hR : Rep v k f) (hw : WF f) : rcT shC 139 Y la 2 (yX3_forgetBeyondBound, cX3_forgetBeyondBound, 3, none) [.ref (Y.2.1 (sid k))] (v) (KD v k (A_trim 10 f)) := by
  refine rcT.of (by decide +kernel) (Nat.le_of_ble_eq_true rfl) (fun X F hn => ?_)
  have loop : ∀ r t : Nat, t ≤ 10 → 10 < t + r → ∀ (w : rcM) (g : Nat → Int32), WF g → Rep w k g → cntH g 10 = cntH f 10 - (t) → g 5 = f 5 → A_trim (10 - (t)) g = A_trim 10 f → Kp v w k → rcJ shC 139 Y X (KD v k (A_trim 10 f)) 12 [(2, .int (nI (t))), (1, .int (nI (cntH f 10) - f 5)), (0, .ref (Y.2.1 (sid k)))] [] w := by
    intro r
    induction r with
    | zero => intro t ht hr; omega
    | succ r ih =>
      intro t ht hr
      intro w g hww hRw hcnt h5 hgo hkp
      refine j_iload_n F.1 dX3_forgetBeyondBound_12 rfl ?_
      refine j_iload_n F.1 dX3_forgetBeyondBound_13 rfl ?_
      refine j_icmp_ge F.1 27 dX3_forgetBeyondBound_14 (by decide) (fun h14 => ?_) (fun h14 => ?_)
      · exact j_vret F dX3_forgetBeyondBound_27 ((by rw [trim_done (by rw [remI_cnt (fun i hi => (hww.1 i hi).2.2.2.1) 10 (by decide), hcnt, h5]; exact (sub_cmp hw.2.2 (cntH_le 10) (by omega)).mp h14)] at hgo; exact ⟨rfl, by rw [← hgo]; exact hRw, hkp⟩))
      · have hlt : f 5 < nI (cntH f 10 - t) := Classical.not_not.mp (fun z => h14 ((sub_cmp hw.2.2 (cntH_le 10) (by omega)).mpr z))
        have hpos : 0 < cntH g 10 := by
          rw [hcnt]
          have z := Int32.lt_iff_toInt_lt.mp hlt
          have := cntH_le (f := f) 10
          rw [nI_toInt (by omega)] at z
          have := hw.2.2
          omega
        obtain ⟨j, hj, e, e6⟩ : ∃ j, j < 10 ∧ old g 10 = nI j ∧ g (ix j 6) = 1 := by
          rcases old_spec (f := g) 10 (by decide) with z | ⟨_, j, hj, e, e6⟩
          · exact absurd z.1 (by omega)
          · exact ⟨j, by omega, e, e6⟩
        have hdc := drop_cnt (f := g) (c := j) 10
        rw [if_pos ⟨hj, e6⟩] at hdc
        have hjn : cN (old g 10) = j := by rw [e, cN_nI hj]
        have hgs : A_trim (10 - t) g = A_trim (10 - (t + 1)) (A_drop g (cN (old g 10))) := by
          have h10 := cntH_le (f := f) 10
          rw [show 10 - t = (10 - (t + 1)) + 1 by omega, A_trim_s, if_pos (by rw [remI_cnt (fun i hi => (hww.1 i hi).2.2.2.1) 10 (by decide), hcnt, h5]; exact hlt)]
        refine j_aload_n F.1 dX3_forgetBeyondBound_17 rfl ?_
        refine j_callV F (c_forgetOldest hk hRw hpos) co_X3_forgetOldest ml_X3_77 im_X3_forgetOldest se_X3_forgetOldest in_X3 rc_X3_forgetOldest rfl (by decide) (by decide) (sh_st hk) rfl rfl (Nat.le_of_ble_eq_true rfl) dX3_forgetBeyondBound_18 (fun r u hr => ?_)
        obtain ⟨rfl, hr2, hr3⟩ := hr
        refine j_iinc F.1 (1) dX3_forgetBeyondBound_21 (by decide) rfl (by rw [hn]; decide) ?_
        refine j_goto F.1 12 dX3_forgetBeyondBound_24 (by decide) ?_
        refine j_loc [(2, .int (nI (t + 1))), (1, .int (nI (cntH f 10) - f 5)), (0, .ref (Y.2.1 (sid k)))] (by rw [← nI_1]; rfl) ?_
        exact ih (t + 1) (by have := cntH_le (f := f) 10; omega) (by omega) _ _ (drop_wf hww) hr2 (by rw [hjn]; omega) (by rw [drop_g (by decide) (by decide)]; exact h5) (by rw [← hgs]; exact hgo) (hkp.tr hr3)
  refine j_aload_n F.1 dX3_forgetBeyondBound_0 rfl ?_
  refine j_callVi F (c_remembered hk hR) co_X3_rememberedAnswers ml_X3_73 im_X3_rememberedAnswers se_X3_rememberedAnswers in_X3 rc_X3_rememberedAnswers rfl (by decide) (by decide) (sh_st hk) rfl rfl (Nat.le_of_ble_eq_true rfl) dX3_forgetBeyondBound_1 ?_
  refine j_aload_n F.1 dX3_forgetBeyondBound_4 rfl ?_
  refine j_geti F (k := 2) inX3 rfl (by decide) fl_X3_17 (sh_st hk) rfl dX3_forgetBeyondBound_5 ?_
  refine j_isub F.1 dX3_forgetBeyondBound_8 ?_
  refine j_istore_n F.1 dX3_forgetBeyondBound_9 (by rw [hn]; decide) ?_
  refine j_iconst F.1 (0) dX3_forgetBeyondBound_10 (by decide) ?_
  refine j_istore_n F.1 dX3_forgetBeyondBound_11 (by rw [hn]; decide) ?_
  refine j_loc [(2, .int (nI (0))), (1, .int (nI (cntH f 10) - f 5)), (0, .ref (Y.2.1 (sid k)))] (by rw [remI_cnt (fun i hi => (hw.1 i hi).2.2.2.1) 10 (by decide), hR.2.2.1]; rfl) ?_
  exact loop 11 0 (by omega) (by omega) v f hw hR rfl rfl rfl Kp.rf
