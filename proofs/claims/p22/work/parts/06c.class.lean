/-! The class: what a state stands for; a cell is redefined. -/
/-- cell p of the class stands for cell i of row f -/
def RpC (v : rcM) (p : Nat) (f : Nat → Int32) (i : Nat) : Prop :=
  (v (p + 10) 0 + 1 = f (ix i 0) ∧ v (p + 10) 1 = f (ix i 1) ∧ v (p + 10) 2 = f (ix i 2) ∧ v (p + 10) 3 = f (ix i 3) ∧ v (p + 10) 4 = f (ix i 4)) ∧
  (f (ix i 0) = 0 → v p 1 = f (ix i 5)) ∧ rcb (v p 2) = f (ix i 6) ∧
  (f (ix i 6) = 1 → v p 1 = f (ix i 8) ∧ v p 3 = f (ix i 7) ∧ v p 4 = f (ix i 9) ∧ v p 6 = f (ix i 13) ∧ v p 5 = if f (ix i 10) = 1 then -1 else f (ix i 12))
def RpS (v : rcM) (s : Nat) (f : Nat → Int32) : Prop := v s 1 = f 0 ∧ v s 2 = f 5 ∧ v s 3 = f 1 ∧ v s 4 = f 2 ∧ v s 5 = f 3 ∧ v s 6 = f 4 ∧ v s 7 = f 6 ∧ v s 8 = f 7
def Rep (v : rcM) (k : Nat) (f : Nat → Int32) : Prop := (∀ i, i < 10 → RpC v (cid k i) f i) ∧ RpS v (sid k) f
theorem RpC.congr {v v' : rcM} {p i : Nat} {f g : Nat → Int32} (h : RpC v p f i) (h1 : v' p = v p) (h2 : v' (p + 10) = v (p + 10)) (h3 : ∀ j, j < 15 → g (ix i j) = f (ix i j)) : RpC v' p g i := by
  unfold RpC at *
  rw [h1, h2, h3 0 (by decide), h3 1 (by decide), h3 2 (by decide), h3 3 (by decide), h3 4 (by decide), h3 5 (by decide), h3 6 (by decide), h3 7 (by decide), h3 8 (by decide), h3 9 (by decide), h3 10 (by decide), h3 12 (by decide), h3 13 (by decide)]
  exact h
theorem Rep.blk {v u : rcM} {k : Nat} {f : Nat → Int32} (h : Rep v k f) (e : ∀ id, Blk k id → u id = v id) : Rep u k f := by
  refine ⟨fun i hi => (h.1 i hi).congr (e _ ?_) (e _ ?_) (fun _ _ => rfl), ?_⟩
  · unfold Blk; show 22 * k + 7 ≤ i + (22 * k + 9) ∧ i + (22 * k + 9) < 22 * k + 29; omega
  · unfold Blk; show 22 * k + 7 ≤ i + (22 * k + 9) + 10 ∧ i + (22 * k + 9) + 10 < 22 * k + 29; omega
  · have q := h.2
    unfold RpS at *
    rw [e (sid k) (by unfold Blk; show 22 * k + 7 ≤ 22 * k + 7 ∧ 22 * k + 7 < 22 * k + 29; omega)]
    exact q
theorem Rep.out {v u : rcM} {k k2 : Nat} {f : Nat → Int32} (h : Rep v k2 f) (o : Out v u k) (hne : k2 ≠ k) : Rep u k2 f := h.blk (fun id hid => o id (by unfold Blk at *; omega))
/-- a row is known by its places -/
theorem Rep.row {v : rcM} {k : Nat} {f g : Nat → Int32} (h : Rep v k f) (e : ∀ j, j < 158 → g j = f j) : Rep v k g := by
  refine ⟨fun i hi => (h.1 i hi).congr rfl rfl (fun j hj => e _ (by unfold ix; omega)), ?_⟩
  have q := h.2
  unfold RpS at *
  rw [e 0 (by decide), e 1 (by decide), e 2 (by decide), e 3 (by decide), e 4 (by decide), e 5 (by decide), e 6 (by decide), e 7 (by decide)]
  exact q
theorem Cpy.rep {v u : rcM} {k k2 : Nat} {f : Nat → Int32} (c : Cpy v u k k2) (h : Rep v k2 f) : Rep u k f := by
  refine ⟨fun i hi => ?_, ?_⟩
  · have q := h.1 i hi
    have w := c.1 i hi
    unfold RpC CpC at *
    obtain ⟨⟨w1, w2, w3, w4, w5, w6, -⟩, d0, d1, d2, d3, d4⟩ := w
    rw [w1, w2, w3, w4, w5, w6, d0, d1, d2, d3, d4, rcb_b]
    exact q
  · have q := h.2
    obtain ⟨-, ⟨s1, s2, s3, s4, s5, s6, s7, s8, -⟩, -⟩ := c
    unfold RpS at *
    rw [s1, s2, s3, s4, s5, s6, s7, s8]
    exact q
/-- no cell is being looked at, and none was -/
def Zr (v : rcM) (k : Nat) : Prop := (∀ i, i < 10 → v (cid k i) 7 = 0) ∧ v (sid k) 9 = 0
theorem Cpy.zr {v u : rcM} {k k2 : Nat} (c : Cpy v u k k2) : Zr u k := ⟨fun i hi => (c.1 i hi).1.2.2.2.2.2.2, c.2.1.2.2.2.2.2.2.2.2⟩
/-- what a step on state k keeps -/
def Kp (v u : rcM) (k : Nat) : Prop := Out v u k ∧ (∀ i, i < 10 → u (cid k i) 7 = v (cid k i) 7) ∧ u (sid k) 9 = v (sid k) 9
theorem Kp.rf {v : rcM} {k : Nat} : Kp v v k := ⟨Out.rf, fun _ _ => rfl, rfl⟩
theorem Kp.tr {u v w : rcM} {k : Nat} (a : Kp u v k) (b : Kp v w k) : Kp u w k := ⟨a.1.tr b.1, fun i hi => (b.2.1 i hi).trans (a.2.1 i hi), b.2.2.trans a.2.2⟩
theorem Kp.zr {v u : rcM} {k : Nat} (a : Kp v u k) (z : Zr v k) : Zr u k := ⟨fun i hi => (a.2.1 i hi).trans (z.1 i hi), a.2.2.trans z.2⟩
theorem inj1 {x y : Int32} (h : x + 1 = y + 1) : x = y := (Int32.add_left_inj 1).mp h
theorem like_so {v : rcM} {k i q : Nat} {f : Nat → Int32} (h : Rep v k f) (hi : i < 10) : C_like v (did k i) q ↔ (f (ix i 0) = v q 0 + 1 ∧ f (ix i 1) = v q 1 ∧ f (ix i 2) = v q 2 ∧ f (ix i 3) = v q 3 ∧ f (ix i 4) = v q 4) := by
  obtain ⟨⟨h0, h1, h2, h3, h4⟩, -⟩ := h.1 i hi
  rw [← h0, ← h1, ← h2, ← h3, ← h4]
  exact ⟨fun z => ⟨by rw [← z.1], z.2⟩, fun z => ⟨inj1 z.1, z.2⟩⟩
/-- the memory behind a new definition -/
def redef (v : rcM) (k i : Nat) (a b c d e : Int32) : rcM := rcu (rcu (setD (rcu v (sid k) 1 (v (sid k) 1 + 1)) (did k i) a b c d e) (cid k i) 1 (v (sid k) 1 + 1)) (cid k i) 2 0
theorem ne_sd {k i : Nat} : sid k ≠ did k i := by show 22 * k + 7 ≠ i + (22 * k + 9) + 10; omega
theorem ne_sc {k i : Nat} : sid k ≠ cid k i := by show 22 * k + 7 ≠ i + (22 * k + 9); omega
theorem ne_cd {k i j : Nat} (hi : i < 10) : cid k i ≠ did k j := by show i + (22 * k + 9) ≠ j + (22 * k + 9) + 10; omega
theorem redef_o {v : rcM} {k i id : Nat} {a b c d e : Int32} (h : id ≠ sid k) (h1 : id ≠ did k i) (h2 : id ≠ cid k i) : redef v k i a b c d e id = v id := by
  unfold redef
  rw [rcu_ne h2, rcu_ne h2, setD_n h1, rcu_ne h]
theorem redef_d {v : rcM} {k i j : Nat} {a b c d e : Int32} (hi : i < 10) : redef v k i a b c d e (did k i) j = setD (rcu v (sid k) 1 (v (sid k) 1 + 1)) (did k i) a b c d e (did k i) j := by
  have h : did k i ≠ cid k i := (ne_cd hi).symm
  unfold redef
  rw [rcu_ne h, rcu_ne h]
theorem redef_c {v : rcM} {k i j : Nat} {a b c d e : Int32} (hi : i < 10) : redef v k i a b c d e (cid k i) j = if j = 2 then 0 else if j = 1 then v (sid k) 1 + 1 else v (cid k i) j := by
  unfold redef
  by_cases h2 : j = 2
  · subst h2; rw [rcu_self]; rfl
  · rw [rcu_k h2, if_neg h2]
    by_cases h1 : j = 1
    · subst h1; rw [rcu_self]; rfl
    · rw [rcu_k h1, if_neg h1, setD_n (ne_cd hi), rcu_ne ne_sc.symm]
theorem redef_s {v : rcM} {k i j : Nat} {a b c d e : Int32} : redef v k i a b c d e (sid k) j = if j = 1 then v (sid k) 1 + 1 else v (sid k) j := by
  unfold redef
  rw [rcu_ne ne_sc, rcu_ne ne_sc, setD_n ne_sd]
  by_cases h1 : j = 1
  · subst h1; rw [rcu_self]; rfl
  · rw [rcu_k h1, if_neg h1]
theorem redef_Kp {v : rcM} {k i : Nat} {a b c d e : Int32} (hi : i < 10) : Kp v (redef v k i a b c d e) k := by
  refine ⟨fun id hid => ?_, fun j hj => ?_, ?_⟩
  · unfold Blk at hid
    refine redef_o ?_ ?_ ?_
    · show id ≠ 22 * k + 7; omega
    · show id ≠ i + (22 * k + 9) + 10; omega
    · show id ≠ i + (22 * k + 9); omega
  · by_cases e : j = i
    · subst e; rw [redef_c hi]; rfl
    · rw [redef_o ne_sc.symm (ne_cd hj) (by show j + (22 * k + 9) ≠ i + (22 * k + 9); omega)]
  · rw [redef_s]; rfl
theorem redef_rep {v : rcM} {k i : Nat} {f : Nat → Int32} {a b c d e : Int32} (h : Rep v k f) (hi : i < 10) : Rep (redef v k i a b c d e) k (A_def1 f i (a + 1) b c d e) := by
  have hs := h.2
  refine ⟨fun j hj => ?_, ?_⟩
  · by_cases q : j = i
    · subst q
      unfold RpC
      rw [def1_0, def1_1, def1_2, def1_3, def1_4, def1_5, def1_6 (j := 6) (by decide) (by decide)]
      refine ⟨?_, fun _ => ?_, ?_, fun z => absurd z (by decide)⟩
      · rw [redef_d hi, redef_d hi, redef_d hi, redef_d hi, redef_d hi, setD_0, setD_1, setD_2, setD_3, setD_4]
        exact ⟨rfl, rfl, rfl, rfl, rfl⟩
      · rw [redef_c hi, ← hs.1]; rfl
      · rw [redef_c hi]; rfl
    · refine (h.1 j hj).congr (redef_o ne_sc.symm (ne_cd hj) ?_) (redef_o ?_ ?_ ?_) (fun w hw => def1_o q hw)
      · show j + (22 * k + 9) ≠ i + (22 * k + 9); omega
      · show j + (22 * k + 9) + 10 ≠ 22 * k + 7; omega
      · show j + (22 * k + 9) + 10 ≠ i + (22 * k + 9) + 10; omega
      · show j + (22 * k + 9) + 10 ≠ i + (22 * k + 9); omega
  · obtain ⟨s1, s2, s3, s4, s5, s6, s7, s8⟩ := hs
    unfold RpS
    rw [def1_g (by decide), def1_g (by decide), def1_g (by decide), def1_g (by decide), def1_g (by decide), def1_g (by decide), def1_g (by decide), def1_g (by decide), redef_s, redef_s, redef_s, redef_s, redef_s, redef_s, redef_s, redef_s, ← s1]
    exact ⟨rfl, s2, s3, s4, s5, s6, s7, s8⟩
def KD (v : rcM) (k : Nat) (g : Nat → Int32) : Option Value → rcM → Prop := fun r u => r = none ∧ Rep u k g ∧ Kp v u k
theorem KD_same {v : rcM} {k i q : Nat} {f : Nat → Int32} (h : Rep v k f) (hi : i < 10) (hl : C_like v (did k i) q) : KD v k (A_def f i (v q 0 + 1) (v q 1) (v q 2) (v q 3) (v q 4)) none v := by
  unfold A_def
  rw [if_pos ((like_so h hi).mp hl)]
  exact ⟨rfl, h, Kp.rf⟩
theorem KD_new {v : rcM} {k i q : Nat} {f : Nat → Int32} (h : Rep v k f) (hi : i < 10) (hl : ¬ C_like v (did k i) q) : KD v k (A_def f i (v q 0 + 1) (v q 1) (v q 2) (v q 3) (v q 4)) none (redef v k i (v q 0) (v q 1) (v q 2) (v q 3) (v q 4)) := by
  unfold A_def
  rw [if_neg (fun z => hl ((like_so h hi).mpr z))]
  exact ⟨rfl, redef_rep h hi, redef_Kp hi⟩
set_option maxHeartbeats 4000000 in
set_option maxRecDepth 100000 in
theorem c_redefine {Y : rcY} {la : Launch} {v : rcM} {k i q : Nat} {f : Nat → Int32} (hk : k < 6) (hi : i < 10) (hq : q < 139 ∧ shC q = .inl (1, [0, 0, 0, 0, 0])) (hq7 : q < 7) (hR : Rep v k f) : rcT shC 139 Y la 1 (yX3_redefine, cX3_redefine, 4, none) [.ref (Y.2.1 (sid k)), .int (nI i), .ref (Y.2.1 q)] (v) (KD v k (A_def f i (v q 0 + 1) (v q 1) (v q 2) (v q 3) (v q 4))) := by
  refine rcT.of (by decide +kernel) (Nat.le_of_ble_eq_true rfl) (fun X F hn => ?_)
  refine j_aload_n F.1 dX3_redefine_0 rfl ?_
  refine j_getr F (k := 0) inX3 rfl (by decide) fl_X3_11 (sh_st hk) rfl dX3_redefine_1 ?_
  refine j_iload_n F.1 dX3_redefine_4 rfl ?_
  refine j_aald3 F (sh_arr hk) rfl hi (by decide) dX3_redefine_5 ?_
  refine j_astore_n F.1 dX3_redefine_6 (by rw [hn]; decide) ?_
  refine j_aload_n F.1 dX3_redefine_7 rfl ?_
  refine j_getr F (k := 0) inX0 rfl (by decide) fl_X3_50 (sh_cell hk hi) rfl dX3_redefine_8 ?_
  refine j_aload_n F.1 dX3_redefine_11 rfl ?_
  refine j_callVi F (c_isLike (sh_def hk hi) hq) co_X1_isLike ml_X3_54 im_X1_isLike se_X1_isLike in_X1 rc_X1_isLike rfl (by decide) (by decide) (sh_def hk hi) rfl rfl (Nat.le_of_ble_eq_true rfl) dX3_redefine_12 ?_
  refine j_if_eq F.1 19 dX3_redefine_15 (by decide) (fun h15 => ?_) (fun h15 => ?_)
  · rw [b2_0] at h15
    refine j_aload_n F.1 dX3_redefine_19 rfl ?_
    refine j_dup F.1 dX3_redefine_20 rfl ?_
    refine j_geti F (k := 1) inX3 rfl (by decide) fl_X3_26 (sh_st hk) rfl dX3_redefine_21 ?_
    refine j_iconst F.1 (1) dX3_redefine_24 (by decide) ?_
    refine j_iadd F.1 dX3_redefine_25 ?_
    refine j_puti F (k := 1) inX3 tyX3_ok nmX3 rfl (by decide) fl_X3_26 rfl rfl (sh_st hk) rfl dX3_redefine_26 ?_
    refine j_aload_n F.1 dX3_redefine_29 rfl ?_
    refine j_getr F (k := 0) inX0 rfl (by decide) fl_X3_50 (sh_cell hk hi) rfl dX3_redefine_30 ?_
    refine j_aload_n F.1 dX3_redefine_33 rfl ?_
    refine j_callVv F (c_dcopy (sh_def hk hi) hq (show q ≠ did k i by show q ≠ i + (22 * k + 9) + 10; omega)) co_X1_copy ml_X3_60 im_X1_copy se_X1_copy in_X1 rc_X1_copy rfl (by decide) (by decide) (sh_def hk hi) rfl rfl (Nat.le_of_ble_eq_true rfl) dX3_redefine_34 ?_
    rw [rcu_ne (show q ≠ sid k by show q ≠ 22 * k + 7; omega)]
    refine j_aload_n F.1 dX3_redefine_37 rfl ?_
    refine j_aload_n F.1 dX3_redefine_38 rfl ?_
    refine j_geti F (k := 1) inX3 rfl (by decide) fl_X3_26 (sh_st hk) rfl dX3_redefine_39 ?_
    refine j_top (y := v (sid k) 1 + 1) (by rw [setD_n ne_sd, rcu_self]) ?_
    refine j_puti F (k := 1) inX0 tyX0_ok nmX0 rfl (by decide) fl_X3_63 rfl rfl (sh_cell hk hi) rfl dX3_redefine_42 ?_
    refine j_aload_n F.1 dX3_redefine_45 rfl ?_
    refine j_iconst F.1 (0) dX3_redefine_46 (by decide) ?_
    refine j_putz F (k := 2) inX0 tyX0_ok nmX0 rfl (by decide) fl_X3_66 rfl rfl (sh_cell hk hi) rfl (by first | exact Or.inl rfl | exact Or.inr rfl | exact rcb_01 _) dX3_redefine_47 ?_
    exact j_vret F dX3_redefine_50 ((KD_new hR hi h15))
  · rw [b2_0, Classical.not_not] at h15
    exact j_vret F dX3_redefine_18 ((KD_same hR hi h15))
