/-! The class: what looks need. -/
/-- a cell worked out, before its use is counted -/
def E_row (f : Nat → Int32) (i : Nat) (ds ch its many o2 : Int32) : Nat → Int32 :=
  let f2 := upd (upd f 6 (f 6 + ds)) (ix i 8) ch
  let f4 := upd (upd f2 (ix i 6) 1) (ix i 7) its
  let f5 := upd f4 (ix i 9) (f4 0)
  let f6 := upd f5 (ix i 10) many
  let f8 := upd (upd f6 (ix i 11) (f6 (ix i 2))) (ix i 12) o2
  upd f8 1 (f8 1 + 1)
def E0 (f : Nat → Int32) (i : Nat) (its many o2 : Int32) : Nat → Int32 := if f (ix i 6) = 1 ∧ f (ix i 7) = its then E_row f i 1 (f (ix i 8)) its many o2 else E_row f i 0 (f 0) its many o2
theorem E0_end {f : Nat → Int32} {i : Nat} {its many o2 : Int32} : A_end f i its many o2 = A_uses (E0 f i its many o2) i := by
  unfold A_end E0
  by_cases h : f (ix i 6) = 1 ∧ f (ix i 7) = its
  · rw [if_pos h, if_pos h]; rfl
  · rw [if_neg h, if_neg h]; rfl
def K0 (f : Nat → Int32) (i : Nat) : Nat → Int32 := upd (upd f (ix i 9) (f 0)) 2 (upd f (ix i 9) (f 0) 2 + 1)
theorem K0_keep {f : Nat → Int32} {i : Nat} : A_keep f i = A_uses (K0 f i) i := rfl
theorem E_o {f : Nat → Int32} {i j : Nat} {ds ch its many o2 : Int32} (h1 : j ≠ 1) (h6 : j ≠ 6) (h : ∀ q, 6 ≤ q → q < 13 → j ≠ ix i q) : E_row f i ds ch its many o2 j = f j := by
  unfold E_row
  rw [pk_un h1, pk_un (h 12 (by decide) (by decide)), pk_un (h 11 (by decide) (by decide)), pk_un (h 10 (by decide) (by decide)), pk_un (h 9 (by decide) (by decide)), pk_un (h 7 (by decide) (by decide)), pk_un (h 6 (by decide) (by decide)), pk_un (h 8 (by decide) (by decide)), pk_un h6]
theorem E_1 {f : Nat → Int32} {i : Nat} {ds ch its many o2 : Int32} : E_row f i ds ch its many o2 1 = f 1 + 1 := by
  unfold E_row
  rw [pk_us, pk_un (ix_h (by decide)), pk_un (ix_h (by decide)), pk_un (ix_h (by decide)), pk_un (ix_h (by decide)), pk_un (ix_h (by decide)), pk_un (ix_h (by decide)), pk_un (ix_h (by decide)), pk_un (by decide)]
theorem E_6 {f : Nat → Int32} {i : Nat} {ds ch its many o2 : Int32} : E_row f i ds ch its many o2 6 = f 6 + ds := by
  unfold E_row
  rw [pk_un (by decide), pk_un (ix_h (by decide)), pk_un (ix_h (by decide)), pk_un (ix_h (by decide)), pk_un (ix_h (by decide)), pk_un (ix_h (by decide)), pk_un (ix_h (by decide)), pk_un (ix_h (by decide)), pk_us]
theorem E_c {f : Nat → Int32} {i : Nat} {ds ch its many o2 : Int32} : E_row f i ds ch its many o2 (ix i 6) = 1 ∧ E_row f i ds ch its many o2 (ix i 7) = its ∧ E_row f i ds ch its many o2 (ix i 8) = ch ∧ E_row f i ds ch its many o2 (ix i 9) = f 0 ∧ E_row f i ds ch its many o2 (ix i 10) = many ∧ E_row f i ds ch its many o2 (ix i 12) = o2 := by
  unfold E_row
  refine ⟨?_, ?_, ?_, ?_, ?_, ?_⟩
  · rw [pk_un (ix_g (by decide)), pk_un (ix_j (by decide)), pk_un (ix_j (by decide)), pk_un (ix_j (by decide)), pk_un (ix_j (by decide)), pk_un (ix_j (by decide)), pk_us]
  · rw [pk_un (ix_g (by decide)), pk_un (ix_j (by decide)), pk_un (ix_j (by decide)), pk_un (ix_j (by decide)), pk_un (ix_j (by decide)), pk_us]
  · rw [pk_un (ix_g (by decide)), pk_un (ix_j (by decide)), pk_un (ix_j (by decide)), pk_un (ix_j (by decide)), pk_un (ix_j (by decide)), pk_un (ix_j (by decide)), pk_un (ix_j (by decide)), pk_us]
  · rw [pk_un (ix_g (by decide)), pk_un (ix_j (by decide)), pk_un (ix_j (by decide)), pk_un (ix_j (by decide)), pk_us, pk_un (ix_h (by decide)), pk_un (ix_h (by decide)), pk_un (ix_h (by decide)), pk_un (by decide)]
  · rw [pk_un (ix_g (by decide)), pk_un (ix_j (by decide)), pk_un (ix_j (by decide)), pk_us]
  · rw [pk_un (ix_g (by decide)), pk_us]
theorem Rep.mk1 {v u : rcM} {k c : Nat} {f g : Nat → Int32} (h : Rep v k f) (h10 : c < 10) (ho : ∀ id, id ≠ cid k c → id ≠ sid k → u id = v id) (hg : ∀ i j, i ≠ c → j < 15 → g (ix i j) = f (ix i j)) (hc : RpC u (cid k c) g c) (hs : RpS u (sid k) g) : Rep u k g := by
  refine ⟨fun i hi => ?_, hs⟩
  by_cases e : i = c
  · subst e; exact hc
  · refine (h.1 i hi).congr (ho _ ?_ ne_sc.symm) (ho _ (ne_cd h10).symm ne_sd.symm) (fun j hj => hg i j e hj)
    show i + (22 * k + 9) ≠ c + (22 * k + 9); omega
theorem Kp.mk1 {v u : rcM} {k c : Nat} (h10 : c < 10) (ho : ∀ id, id ≠ cid k c → id ≠ sid k → u id = v id) (h7 : u (cid k c) 7 = v (cid k c) 7) (h9 : u (sid k) 9 = v (sid k) 9) : Kp v u k := by
  refine ⟨fun id hid => ho id ?_ ?_, fun i hi => ?_, h9⟩
  · unfold Blk at hid; show id ≠ c + (22 * k + 9); omega
  · unfold Blk at hid; show id ≠ 22 * k + 7; omega
  · by_cases e : i = c
    · subst e; exact h7
    · rw [ho _ (show i + (22 * k + 9) ≠ c + (22 * k + 9) by omega) ne_sc.symm]
/-- the memory behind remember -/
def remA (v : rcM) (k c : Nat) (its sec rv : Int32) : rcM := rcu (rcu (rcu (rcu v (cid k c) 2 1) (cid k c) 3 its) (cid k c) 5 sec) (cid k c) 4 rv
theorem remA_o {v : rcM} {k c id : Nat} {its sec rv : Int32} (h : id ≠ cid k c) : remA v k c its sec rv id = v id := by
  unfold remA
  rw [rcu_ne h, rcu_ne h, rcu_ne h, rcu_ne h]
theorem remA_c {v : rcM} {k c j : Nat} {its sec rv : Int32} : remA v k c its sec rv (cid k c) j = if j = 4 then rv else if j = 5 then sec else if j = 3 then its else if j = 2 then 1 else v (cid k c) j := by
  unfold remA
  by_cases h4 : j = 4
  · subst h4; rw [rcu_self]; rfl
  · rw [rcu_k h4, if_neg h4]
    by_cases h5 : j = 5
    · subst h5; rw [rcu_self]; rfl
    · rw [rcu_k h5, if_neg h5]
      by_cases h3 : j = 3
      · subst h3; rw [rcu_self]; rfl
      · rw [rcu_k h3, if_neg h3]
        by_cases h2 : j = 2
        · subst h2; rw [rcu_self]; rfl
        · rw [rcu_k h2, if_neg h2]
theorem uses_13 {f : Nat → Int32} {c : Nat} {z : Int32} : A_uses (upd f (ix c 13) z) c = A_uses f c := by
  unfold A_uses
  rw [pk_un (show 7 ≠ ix c 13 from ix_h (by decide))]
  funext j
  unfold upd
  by_cases h : j = ix c 13
  · rw [if_pos h, if_pos h]
  · rw [if_neg h, if_neg h]
    by_cases h7 : j = 7
    · rw [if_pos h7, if_neg h]
    · rw [if_neg h7, if_neg h]
theorem rem_rep {v w : rcM} {k c : Nat} {f : Nat → Int32} {ds ch its sec many o2 : Int32} (h : Rep v k f) (hc : c < 10) (h0 : ¬ f (ix c 0) = 0) (hm : sec = if many = 1 then -1 else o2)
    (ho : ∀ id, id ≠ cid k c → id ≠ sid k → w id = v id) (hw1 : w (cid k c) 1 = ch) (hwj : ∀ j, j ≠ 1 → w (cid k c) j = v (cid k c) j) (hs3 : w (sid k) 3 = v (sid k) 3 + 1) (hs7 : w (sid k) 7 = v (sid k) 7 + ds) (hsj : ∀ j, j ≠ 3 → j ≠ 7 → w (sid k) j = v (sid k) j) :
    Rep (remA w k c its sec (v (sid k) 1)) k (upd (E_row f c ds ch its many o2) (ix c 13) (v (cid k c) 6)) ∧ Kp v (remA w k c its sec (v (sid k) 1)) k := by
  obtain ⟨e6, e7, e8, e9, e10, e12⟩ := E_c (f := f) (i := c) (ds := ds) (ch := ch) (its := its) (many := many) (o2 := o2)
  have eo : ∀ j, j < 6 → E_row f c ds ch its many o2 (ix c j) = f (ix c j) := fun j hj => E_o (ix_g (by decide)) (ix_g (by decide)) (fun q h6 _ => ix_j (by omega))
  have eg : ∀ j, j < 8 → j ≠ 1 → j ≠ 6 → E_row f c ds ch its many o2 j = f j := fun j hj h1 h6 => E_o h1 h6 (fun q _ _ => ix_h hj)
  have ho' : ∀ id, id ≠ cid k c → id ≠ sid k → remA w k c its sec (v (sid k) 1) id = v id := fun id h1 h2 => by rw [remA_o h1, ho id h1 h2]
  have hsS : remA w k c its sec (v (sid k) 1) (sid k) = w (sid k) := remA_o ne_sc
  have hrc := h.1 c hc
  obtain ⟨s1, s2, s3, s4, s5, s6, s7, s8⟩ := h.2
  refine ⟨h.mk1 hc ho' (fun i j hi hj => by rw [pk_un (ix_o hi hj (by decide))]; exact E_o (ix_g (by decide)) (ix_g (by decide)) (fun q _ hq => ix_o hi hj (by omega))) ?_ ?_, Kp.mk1 hc ho' ?_ ?_⟩
  · have hd : remA w k c its sec (v (sid k) 1) (cid k c + 10) = v (cid k c + 10) := ho' _ (ne_cd hc).symm ne_sd.symm
    unfold RpC at *
    rw [pk_un (ix_j (by decide)), pk_un (ix_j (by decide)), pk_un (ix_j (by decide)), pk_un (ix_j (by decide)), pk_un (ix_j (by decide)), pk_un (ix_j (by decide)), pk_un (ix_j (by decide)), pk_un (ix_j (by decide)), pk_un (ix_j (by decide)), pk_un (ix_j (by decide)), pk_us, pk_un (ix_j (by decide)), pk_un (ix_j (by decide))]
    rw [hd, eo 0 (by decide), eo 1 (by decide), eo 2 (by decide), eo 3 (by decide), eo 4 (by decide), e6, e7, e8, e9, e10, e12, remA_c, remA_c, remA_c, remA_c, remA_c, remA_c]
    refine ⟨hrc.1, fun z => absurd z h0, rfl, fun _ => ⟨hw1, rfl, ?_, ?_, hm⟩⟩
    · show v (sid k) 1 = f 0
      exact s1
    · exact hwj 6 (by decide)
  · unfold RpS
    rw [hsS, pk_un (ix_h (by decide)), pk_un (ix_h (by decide)), pk_un (ix_h (by decide)), pk_un (ix_h (by decide)), pk_un (ix_h (by decide)), pk_un (ix_h (by decide)), pk_un (ix_h (by decide)), pk_un (ix_h (by decide)), E_1, E_6, eg 0 (by decide) (by decide) (by decide), eg 5 (by decide) (by decide) (by decide), eg 2 (by decide) (by decide) (by decide), eg 3 (by decide) (by decide) (by decide), eg 4 (by decide) (by decide) (by decide), eg 7 (by decide) (by decide) (by decide), hs3, hs7, hsj 1 (by decide) (by decide), hsj 2 (by decide) (by decide), hsj 4 (by decide) (by decide), hsj 5 (by decide) (by decide), hsj 6 (by decide) (by decide), hsj 8 (by decide) (by decide)]
    exact ⟨s1, s2, by rw [s3], s4, s5, s6, by rw [s7], s8⟩
  · rw [remA_c]; exact hwj 7 (by decide)
  · rw [hsS]; exact hsj 9 (by decide) (by decide)
def KR (v : rcM) (k c : Nat) (f : Nat → Int32) (its many o2 : Int32) : Option Value → rcM → Prop := fun r u => r = none ∧ (∃ g0, A_uses g0 c = A_end f c its many o2 ∧ Rep u k g0) ∧ Kp v u k
theorem KR_same {v : rcM} {k c : Nat} {f : Nat → Int32} {its sec many o2 : Int32} (h : Rep v k f) (hc : c < 10) (h0 : ¬ f (ix c 0) = 0) (hm : sec = if many = 1 then -1 else o2) (h6 : f (ix c 6) = 1) (h7 : f (ix c 7) = its) :
    KR v k c f its many o2 none (remA (rcu (rcu v (sid k) 3 (v (sid k) 3 + 1)) (sid k) 7 (v (sid k) 7 + 1)) k c its sec (v (sid k) 1)) := by
  have q := rem_rep (w := rcu (rcu v (sid k) 3 (v (sid k) 3 + 1)) (sid k) 7 (v (sid k) 7 + 1)) (ds := 1) (ch := f (ix c 8)) (its := its) h hc h0 hm (fun id h1 h2 => by rw [rcu_ne h2, rcu_ne h2]) (by rw [rcu_ne ne_sc.symm, rcu_ne ne_sc.symm]; exact ((h.1 c hc).2.2.2 h6).1) (fun j _ => by rw [rcu_ne ne_sc.symm, rcu_ne ne_sc.symm]) (by rw [rcu_k (by decide), rcu_self]) (by rw [rcu_self]) (fun j h3 h7 => by rw [rcu_k h7, rcu_k h3])
  refine ⟨rfl, ⟨_, ?_, q.1⟩, q.2⟩
  rw [uses_13, E0_end]
  unfold E0
  rw [if_pos ⟨h6, h7⟩]
theorem KR_new {v : rcM} {k c : Nat} {f : Nat → Int32} {its sec many o2 : Int32} (h : Rep v k f) (hc : c < 10) (h0 : ¬ f (ix c 0) = 0) (hm : sec = if many = 1 then -1 else o2) (hn : ¬ (f (ix c 6) = 1 ∧ f (ix c 7) = its)) :
    KR v k c f its many o2 none (remA (rcu (rcu v (sid k) 3 (v (sid k) 3 + 1)) (cid k c) 1 (v (sid k) 1)) k c its sec (v (sid k) 1)) := by
  have q := rem_rep (w := rcu (rcu v (sid k) 3 (v (sid k) 3 + 1)) (cid k c) 1 (v (sid k) 1)) (ds := 0) (ch := f 0) (its := its) h hc h0 hm (fun id h1 h2 => by rw [rcu_ne h1, rcu_ne h2]) (by rw [rcu_self]; exact h.2.1) (fun j h1 => by rw [rcu_k h1, rcu_ne ne_sc.symm]) (by rw [rcu_ne ne_sc, rcu_self]) (by rw [rcu_ne ne_sc, rcu_k (by decide)]; exact (Int32.add_zero _).symm) (fun j h3 h7 => by rw [rcu_ne ne_sc, rcu_k h3])
  refine ⟨rfl, ⟨_, ?_, q.1⟩, q.2⟩
  rw [uses_13, E0_end]
  unfold E0
  rw [if_neg hn]
set_option maxHeartbeats 4000000 in
set_option maxRecDepth 100000 in
theorem c_remember {Y : rcY} {la : Launch} {v : rcM} {k c : Nat} {f : Nat → Int32} {its sec many o2 : Int32} (hk : k < 6) (h : Rep v k f) (hc : c < 10) (h0 : ¬ f (ix c 0) = 0) (hm : sec = if many = 1 then -1 else o2) : rcT shC 139 Y la 0 (yX3_remember, cX3_remember, 4, none) [.ref (Y.2.1 (sid k)), .ref (Y.2.1 (cid k c)), .int its, .int sec] (v) (KR v k c f its many o2) := by
  refine rcT.of (by decide +kernel) (Nat.le_of_ble_eq_true rfl) (fun X F hn => ?_)
  refine j_aload_n F.1 dX3_remember_0 rfl ?_
  refine j_dup F.1 dX3_remember_1 rfl ?_
  refine j_geti F (k := 3) inX3 rfl (by decide) fl_X3_29 (sh_st hk) rfl dX3_remember_2 ?_
  refine j_iconst F.1 (1) dX3_remember_5 (by decide) ?_
  refine j_iadd F.1 dX3_remember_6 ?_
  refine j_puti F (k := 3) inX3 tyX3_ok nmX3 rfl (by decide) fl_X3_29 rfl rfl (sh_st hk) rfl dX3_remember_7 ?_
  refine j_aload_n F.1 dX3_remember_10 rfl ?_
  refine j_getz F (k := 2) inX0 rfl (by decide) fl_X3_66 (sh_cell hk hc) rfl dX3_remember_11 ?_
  refine j_top (y := rcb (v (cid k c) 2)) (by rw [rcu_ne ne_sc.symm]) ?_
  refine j_if_eq F.1 38 dX3_remember_14 (by decide) (fun h14 => ?_) (fun h14 => ?_)
  · have h60 : f (ix c 6) = 0 := by rw [← (h.1 c hc).2.2.1]; exact h14
    have hn : ¬ (f (ix c 6) = 1 ∧ f (ix c 7) = its) := fun z => absurd (h60.symm.trans z.1) (by decide)
    have KK := fun u (e : u = remA (rcu (rcu v (sid k) 3 (v (sid k) 3 + 1)) (cid k c) 1 (v (sid k) 1)) k c its sec (v (sid k) 1)) => (show KR v k c f its many o2 none u by rw [e]; exact KR_new h hc h0 hm hn)
    refine j_aload_n F.1 dX3_remember_38 rfl ?_
    refine j_aload_n F.1 dX3_remember_39 rfl ?_
    refine j_geti F (k := 1) inX3 rfl (by decide) fl_X3_26 (sh_st hk) rfl dX3_remember_40 ?_
    refine j_top (y := v (sid k) 1) (by rw [rcu_k (by decide)]) ?_
    refine j_puti F (k := 1) inX0 tyX0_ok nmX0 rfl (by decide) fl_X3_63 rfl rfl (sh_cell hk hc) rfl dX3_remember_43 ?_
    refine j_aload_n F.1 dX3_remember_46 rfl ?_
    refine j_iconst F.1 (1) dX3_remember_47 (by decide) ?_
    refine j_putz F (k := 2) inX0 tyX0_ok nmX0 rfl (by decide) fl_X3_66 rfl rfl (sh_cell hk hc) rfl (by first | exact Or.inl rfl | exact Or.inr rfl | exact rcb_01 _) dX3_remember_48 ?_
    refine j_aload_n F.1 dX3_remember_51 rfl ?_
    refine j_iload_n F.1 dX3_remember_52 rfl ?_
    refine j_puti F (k := 3) inX0 tyX0_ok nmX0 rfl (by decide) fl_X3_129 rfl rfl (sh_cell hk hc) rfl dX3_remember_53 ?_
    refine j_aload_n F.1 dX3_remember_56 rfl ?_
    refine j_iload_n F.1 dX3_remember_57 rfl ?_
    refine j_puti F (k := 5) inX0 tyX0_ok nmX0 rfl (by decide) fl_X3_111 rfl rfl (sh_cell hk hc) rfl dX3_remember_58 ?_
    refine j_aload_n F.1 dX3_remember_61 rfl ?_
    refine j_aload_n F.1 dX3_remember_62 rfl ?_
    refine j_geti F (k := 1) inX3 rfl (by decide) fl_X3_26 (sh_st hk) rfl dX3_remember_63 ?_
    refine j_top (y := v (sid k) 1) (by first | rw [rcu_ne ne_sc, rcu_ne ne_sc, rcu_ne ne_sc, rcu_k (by decide), rcu_k (by decide)] | rw [rcu_ne ne_sc, rcu_ne ne_sc, rcu_ne ne_sc, rcu_ne ne_sc, rcu_k (by decide)]) ?_
    refine j_puti F (k := 4) inX0 tyX0_ok nmX0 rfl (by decide) fl_X3_94 rfl rfl (sh_cell hk hc) rfl dX3_remember_66 ?_
    exact j_vret F dX3_remember_69 ((KK _ rfl))
  · have h6 : f (ix c 6) = 1 := h.has1 hc h14
    have h7 := ((h.1 c hc).2.2.2 h6).2.1
    refine j_aload_n F.1 dX3_remember_17 rfl ?_
    refine j_geti F (k := 3) inX0 rfl (by decide) fl_X3_129 (sh_cell hk hc) rfl dX3_remember_18 ?_
    refine j_top (y := f (ix c 7)) (by rw [rcu_ne ne_sc.symm]; exact h7) ?_
    refine j_iload_n F.1 dX3_remember_21 rfl ?_
    refine j_icmp_ne F.1 38 dX3_remember_22 (by decide) (fun h22 => ?_) (fun h22 => ?_)
    · have hn : ¬ (f (ix c 6) = 1 ∧ f (ix c 7) = its) := fun z => h22 z.2
      have KK := fun u (e : u = remA (rcu (rcu v (sid k) 3 (v (sid k) 3 + 1)) (cid k c) 1 (v (sid k) 1)) k c its sec (v (sid k) 1)) => (show KR v k c f its many o2 none u by rw [e]; exact KR_new h hc h0 hm hn)
      refine j_aload_n F.1 dX3_remember_38 rfl ?_
      refine j_aload_n F.1 dX3_remember_39 rfl ?_
      refine j_geti F (k := 1) inX3 rfl (by decide) fl_X3_26 (sh_st hk) rfl dX3_remember_40 ?_
      refine j_top (y := v (sid k) 1) (by rw [rcu_k (by decide)]) ?_
      refine j_puti F (k := 1) inX0 tyX0_ok nmX0 rfl (by decide) fl_X3_63 rfl rfl (sh_cell hk hc) rfl dX3_remember_43 ?_
      refine j_aload_n F.1 dX3_remember_46 rfl ?_
      refine j_iconst F.1 (1) dX3_remember_47 (by decide) ?_
      refine j_putz F (k := 2) inX0 tyX0_ok nmX0 rfl (by decide) fl_X3_66 rfl rfl (sh_cell hk hc) rfl (by first | exact Or.inl rfl | exact Or.inr rfl | exact rcb_01 _) dX3_remember_48 ?_
      refine j_aload_n F.1 dX3_remember_51 rfl ?_
      refine j_iload_n F.1 dX3_remember_52 rfl ?_
      refine j_puti F (k := 3) inX0 tyX0_ok nmX0 rfl (by decide) fl_X3_129 rfl rfl (sh_cell hk hc) rfl dX3_remember_53 ?_
      refine j_aload_n F.1 dX3_remember_56 rfl ?_
      refine j_iload_n F.1 dX3_remember_57 rfl ?_
      refine j_puti F (k := 5) inX0 tyX0_ok nmX0 rfl (by decide) fl_X3_111 rfl rfl (sh_cell hk hc) rfl dX3_remember_58 ?_
      refine j_aload_n F.1 dX3_remember_61 rfl ?_
      refine j_aload_n F.1 dX3_remember_62 rfl ?_
      refine j_geti F (k := 1) inX3 rfl (by decide) fl_X3_26 (sh_st hk) rfl dX3_remember_63 ?_
      refine j_top (y := v (sid k) 1) (by first | rw [rcu_ne ne_sc, rcu_ne ne_sc, rcu_ne ne_sc, rcu_k (by decide), rcu_k (by decide)] | rw [rcu_ne ne_sc, rcu_ne ne_sc, rcu_ne ne_sc, rcu_ne ne_sc, rcu_k (by decide)]) ?_
      refine j_puti F (k := 4) inX0 tyX0_ok nmX0 rfl (by decide) fl_X3_94 rfl rfl (sh_cell hk hc) rfl dX3_remember_66 ?_
      exact j_vret F dX3_remember_69 ((KK _ rfl))
    · have KK := fun u (e : u = remA (rcu (rcu v (sid k) 3 (v (sid k) 3 + 1)) (sid k) 7 (v (sid k) 7 + 1)) k c its sec (v (sid k) 1)) => (show KR v k c f its many o2 none u by rw [e]; exact KR_same h hc h0 hm h6 h22)
      refine j_aload_n F.1 dX3_remember_25 rfl ?_
      refine j_dup F.1 dX3_remember_26 rfl ?_
      refine j_geti F (k := 7) inX3 rfl (by decide) fl_X3_41 (sh_st hk) rfl dX3_remember_27 ?_
      refine j_iconst F.1 (1) dX3_remember_30 (by decide) ?_
      refine j_iadd F.1 dX3_remember_31 ?_
      refine j_top (y := v (sid k) 7 + 1) (by rw [rcu_k (by decide)]) ?_
      refine j_puti F (k := 7) inX3 tyX3_ok nmX3 rfl (by decide) fl_X3_41 rfl rfl (sh_st hk) rfl dX3_remember_32 ?_
      refine j_goto F.1 46 dX3_remember_35 (by decide) ?_
      refine j_aload_n F.1 dX3_remember_46 rfl ?_
      refine j_iconst F.1 (1) dX3_remember_47 (by decide) ?_
      refine j_putz F (k := 2) inX0 tyX0_ok nmX0 rfl (by decide) fl_X3_66 rfl rfl (sh_cell hk hc) rfl (by first | exact Or.inl rfl | exact Or.inr rfl | exact rcb_01 _) dX3_remember_48 ?_
      refine j_aload_n F.1 dX3_remember_51 rfl ?_
      refine j_iload_n F.1 dX3_remember_52 rfl ?_
      refine j_puti F (k := 3) inX0 tyX0_ok nmX0 rfl (by decide) fl_X3_129 rfl rfl (sh_cell hk hc) rfl dX3_remember_53 ?_
      refine j_aload_n F.1 dX3_remember_56 rfl ?_
      refine j_iload_n F.1 dX3_remember_57 rfl ?_
      refine j_puti F (k := 5) inX0 tyX0_ok nmX0 rfl (by decide) fl_X3_111 rfl rfl (sh_cell hk hc) rfl dX3_remember_58 ?_
      refine j_aload_n F.1 dX3_remember_61 rfl ?_
      refine j_aload_n F.1 dX3_remember_62 rfl ?_
      refine j_geti F (k := 1) inX3 rfl (by decide) fl_X3_26 (sh_st hk) rfl dX3_remember_63 ?_
      refine j_top (y := v (sid k) 1) (by first | rw [rcu_ne ne_sc, rcu_ne ne_sc, rcu_ne ne_sc, rcu_k (by decide), rcu_k (by decide)] | rw [rcu_ne ne_sc, rcu_ne ne_sc, rcu_ne ne_sc, rcu_ne ne_sc, rcu_k (by decide)]) ?_
      refine j_puti F (k := 4) inX0 tyX0_ok nmX0 rfl (by decide) fl_X3_94 rfl rfl (sh_cell hk hc) rfl dX3_remember_66 ?_
      exact j_vret F dX3_remember_69 ((KK _ rfl))
