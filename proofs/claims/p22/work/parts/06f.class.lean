/-! The class: what a look meets. -/
/-- the cells being looked at are O -/
def Bg (v : rcM) (k : Nat) (O : List Nat) : Prop := ∀ i, i < 10 → rcb (v (cid k i) 7) = if i ∈ O then 1 else 0
theorem Kp.bg {v u : rcM} {k : Nat} {O : List Nat} (a : Kp v u k) (b : Bg v k O) : Bg u k O := fun i hi => by rw [a.2.1 i hi]; exact b i hi
theorem Zr.bg {v : rcM} {k : Nat} (z : Zr v k) : Bg v k [] := fun i hi => by rw [z.1 i hi]; rfl
theorem Bg.opn {v : rcM} {k c : Nat} {O : List Nat} (b : Bg v k O) : Bg (rcu v (cid k c) 7 1) k (c :: O) := fun i hi => by
  by_cases e : i = c
  · subst e; rw [rcu_self, if_pos List.mem_cons_self]; rfl
  · rw [rcu_ne (show i + (22 * k + 9) ≠ c + (22 * k + 9) by omega), b i hi]
    by_cases q : i ∈ O
    · rw [if_pos q, if_pos (List.mem_cons_of_mem _ q)]
    · rw [if_neg q, if_neg (fun z => (List.mem_cons.mp z).elim e q)]
theorem Bg.cls {v : rcM} {k c : Nat} {O : List Nat} (b : Bg v k (c :: O)) (hO : c ∉ O) : Bg (rcu v (cid k c) 7 0) k O := fun i hi => by
  by_cases e : i = c
  · subst e; rw [rcu_self, if_neg hO]; rfl
  · rw [rcu_ne (show i + (22 * k + 9) ≠ c + (22 * k + 9) by omega), b i hi]
    by_cases q : i ∈ O
    · rw [if_pos q, if_pos (List.mem_cons_of_mem _ q)]
    · rw [if_neg q, if_neg (fun z => (List.mem_cons.mp z).elim e q)]
theorem RpC.c7 {v : rcM} {k c i : Nat} {f : Nat → Int32} {x : Int32} (h : RpC v (cid k i) f i) (hi : c < 10) : RpC (rcu v (cid k c) 7 x) (cid k i) f i := by
  have hd : rcu v (cid k c) 7 x (cid k i + 10) = v (cid k i + 10) := rcu_ne (ne_cd hi).symm
  unfold RpC at *
  rw [hd]
  by_cases e : i = c
  · subst e
    rw [rcu_k (by decide), rcu_k (by decide), rcu_k (by decide), rcu_k (by decide), rcu_k (by decide), rcu_k (by decide)]
    exact h
  · rw [rcu_ne (show i + (22 * k + 9) ≠ c + (22 * k + 9) by omega)]
    exact h
theorem Rep.c7 {v : rcM} {k c : Nat} {f : Nat → Int32} {x : Int32} (h : Rep v k f) (hc : c < 10) : Rep (rcu v (cid k c) 7 x) k f := by
  refine ⟨fun i hi => (h.1 i hi).c7 hc, ?_⟩
  have q := h.2
  unfold RpS at *
  rw [rcu_ne ne_sc]
  exact q
theorem Rep.s9 {v : rcM} {k : Nat} {f : Nat → Int32} {x : Int32} (h : Rep v k f) : Rep (rcu v (sid k) 9 x) k f := by
  refine ⟨fun i hi => (h.1 i hi).congr (rcu_ne ne_sc.symm) (rcu_ne ne_sd.symm) (fun _ _ => rfl), ?_⟩
  have q := h.2
  unfold RpS at *
  rw [rcu_k (by decide), rcu_k (by decide), rcu_k (by decide), rcu_k (by decide), rcu_k (by decide), rcu_k (by decide), rcu_k (by decide), rcu_k (by decide)]
  exact q
theorem Bg.s9 {v : rcM} {k : Nat} {O : List Nat} {x : Int32} (b : Bg v k O) : Bg (rcu v (sid k) 9 x) k O := fun i hi => by rw [rcu_ne ne_sc.symm]; exact b i hi
theorem Out.u {v u : rcM} {k id j : Nat} {x : Int32} (o : Out v u k) (h : Blk k id) : Out v (rcu u id j x) k := fun q hq => by
  have e : q ≠ id := fun e => hq (by rw [e]; exact h)
  rw [rcu_ne e]
  exact o q hq
theorem blk_s {k : Nat} : Blk k (sid k) := by unfold Blk; show 22 * k + 7 ≤ 22 * k + 7 ∧ 22 * k + 7 < 22 * k + 29; omega
theorem blk_c {k c : Nat} (hc : c < 10) : Blk k (cid k c) := by unfold Blk; show 22 * k + 7 ≤ c + (22 * k + 9) ∧ c + (22 * k + 9) < 22 * k + 29; omega
/-- a use is counted -/
def usesM (w : rcM) (k c : Nat) : rcM := rcu (rcu w (sid k) 8 (w (sid k) 8 + 1)) (cid k c) 6 (w (sid k) 8 + 1)
theorem usesM_rep {w : rcM} {k c : Nat} {g : Nat → Int32} (h : Rep w k g) (hc : c < 10) : Rep (usesM w k c) k (A_uses g c) ∧ Kp w (usesM w k c) k := by
  have hp : ∀ j, j < 15 → j ≠ 13 → A_uses g c (ix c j) = g (ix c j) := fun j hj h13 => by unfold A_uses; rw [pk_un (ix_j h13), pk_un (ix_g (by decide))]
  have hg : ∀ j, j < 7 → A_uses g c j = g j := fun j hj => by unfold A_uses; rw [pk_un (ix_h (by omega)), pk_un (by omega)]
  have h7 : A_uses g c 7 = g 7 + 1 := by unfold A_uses; rw [pk_un (ix_h (by decide)), pk_us]
  have h13 : A_uses g c (ix c 13) = g 7 + 1 := by unfold A_uses; rw [pk_us]
  have hc6 : usesM w k c (cid k c) 6 = w (sid k) 8 + 1 := by unfold usesM; rw [rcu_self]
  have hcj : ∀ j, j ≠ 6 → usesM w k c (cid k c) j = w (cid k c) j := fun j hj => by unfold usesM; rw [rcu_k hj, rcu_ne ne_sc.symm]
  have hs8 : usesM w k c (sid k) 8 = w (sid k) 8 + 1 := by unfold usesM; rw [rcu_ne ne_sc, rcu_self]
  have hsj : ∀ j, j ≠ 8 → usesM w k c (sid k) j = w (sid k) j := fun j hj => by unfold usesM; rw [rcu_ne ne_sc, rcu_k hj]
  have ho : ∀ id, id ≠ cid k c → id ≠ sid k → usesM w k c id = w id := fun id h1 h2 => by unfold usesM; rw [rcu_ne h1, rcu_ne h2]
  obtain ⟨s1, s2, s3, s4, s5, s6, s7, s8⟩ := h.2
  refine ⟨h.mk1 hc ho (fun i j hi hj => by unfold A_uses; rw [pk_un (ix_o hi hj (by decide)), pk_un (ix_g (by decide))]) ?_ ?_, Kp.mk1 hc ho (hcj 7 (by decide)) (hsj 9 (by decide))⟩
  · have hd : usesM w k c (cid k c + 10) = w (cid k c + 10) := ho _ (ne_cd hc).symm ne_sd.symm
    have q := h.1 c hc
    unfold RpC at *
    rw [hd, hp 0 (by decide) (by decide), hp 1 (by decide) (by decide), hp 2 (by decide) (by decide), hp 3 (by decide) (by decide), hp 4 (by decide) (by decide), hp 5 (by decide) (by decide), hp 6 (by decide) (by decide), hp 7 (by decide) (by decide), hp 8 (by decide) (by decide), hp 9 (by decide) (by decide), hp 10 (by decide) (by decide), hp 12 (by decide) (by decide), h13, hc6, hcj 1 (by decide), hcj 2 (by decide), hcj 3 (by decide), hcj 4 (by decide), hcj 5 (by decide)]
    exact ⟨q.1, q.2.1, q.2.2.1, fun z => ⟨(q.2.2.2 z).1, (q.2.2.2 z).2.1, (q.2.2.2 z).2.2.1, by rw [s8], (q.2.2.2 z).2.2.2.2⟩⟩
  · unfold RpS
    rw [hg 0 (by decide), hg 1 (by decide), hg 2 (by decide), hg 3 (by decide), hg 4 (by decide), hg 5 (by decide), hg 6 (by decide), h7, hs8, hsj 1 (by decide), hsj 2 (by decide), hsj 3 (by decide), hsj 4 (by decide), hsj 5 (by decide), hsj 6 (by decide), hsj 7 (by decide)]
    exact ⟨s1, s2, s3, s4, s5, s6, s7, by rw [s8]⟩
/-- an answer is kept, or taken: before the use is counted -/
def keepM (w : rcM) (k c : Nat) : rcM := rcu (rcu w (sid k) 4 (w (sid k) 4 + 1)) (cid k c) 4 (w (sid k) 1)
theorem keepM_rep {w : rcM} {k c : Nat} {g : Nat → Int32} (h : Rep w k g) (hc : c < 10) : Rep (keepM w k c) k (K0 g c) ∧ Kp w (keepM w k c) k := by
  have hp : ∀ j, j < 15 → j ≠ 9 → K0 g c (ix c j) = g (ix c j) := fun j hj h9 => by unfold K0; rw [pk_un (ix_g (by decide)), pk_un (ix_j h9)]
  have h9 : K0 g c (ix c 9) = g 0 := by unfold K0; rw [pk_un (ix_g (by decide)), pk_us]
  have hg : ∀ j, j < 8 → j ≠ 2 → K0 g c j = g j := fun j hj h2 => by unfold K0; rw [pk_un h2, pk_un (ix_h (by omega))]
  have h2 : K0 g c 2 = g 2 + 1 := by unfold K0; rw [pk_us, pk_un (ix_h (by decide))]
  have hc4 : keepM w k c (cid k c) 4 = w (sid k) 1 := by unfold keepM; rw [rcu_self]
  have hcj : ∀ j, j ≠ 4 → keepM w k c (cid k c) j = w (cid k c) j := fun j hj => by unfold keepM; rw [rcu_k hj, rcu_ne ne_sc.symm]
  have hs4 : keepM w k c (sid k) 4 = w (sid k) 4 + 1 := by unfold keepM; rw [rcu_ne ne_sc, rcu_self]
  have hsj : ∀ j, j ≠ 4 → keepM w k c (sid k) j = w (sid k) j := fun j hj => by unfold keepM; rw [rcu_ne ne_sc, rcu_k hj]
  have ho : ∀ id, id ≠ cid k c → id ≠ sid k → keepM w k c id = w id := fun id h1 h2 => by unfold keepM; rw [rcu_ne h1, rcu_ne h2]
  obtain ⟨s1, s2, s3, s4, s5, s6, s7, s8⟩ := h.2
  refine ⟨h.mk1 hc ho (fun i j hi hj => by unfold K0; rw [pk_un (ix_g (by decide)), pk_un (ix_o hi hj (by decide))]) ?_ ?_, Kp.mk1 hc ho (hcj 7 (by decide)) (hsj 9 (by decide))⟩
  · have hd : keepM w k c (cid k c + 10) = w (cid k c + 10) := ho _ (ne_cd hc).symm ne_sd.symm
    have q := h.1 c hc
    unfold RpC at *
    rw [hd, hp 0 (by decide) (by decide), hp 1 (by decide) (by decide), hp 2 (by decide) (by decide), hp 3 (by decide) (by decide), hp 4 (by decide) (by decide), hp 5 (by decide) (by decide), hp 6 (by decide) (by decide), hp 7 (by decide) (by decide), hp 8 (by decide) (by decide), h9, hp 10 (by decide) (by decide), hp 12 (by decide) (by decide), hp 13 (by decide) (by decide), hc4, hcj 1 (by decide), hcj 2 (by decide), hcj 3 (by decide), hcj 5 (by decide), hcj 6 (by decide)]
    exact ⟨q.1, q.2.1, q.2.2.1, fun z => ⟨(q.2.2.2 z).1, (q.2.2.2 z).2.1, s1, (q.2.2.2 z).2.2.2⟩⟩
  · unfold RpS
    rw [hg 0 (by decide) (by decide), hg 1 (by decide) (by decide), h2, hg 3 (by decide) (by decide), hg 4 (by decide) (by decide), hg 5 (by decide) (by decide), hg 6 (by decide) (by decide), hg 7 (by decide) (by decide), hs4, hsj 1 (by decide), hsj 2 (by decide), hsj 3 (by decide), hsj 5 (by decide), hsj 6 (by decide), hsj 7 (by decide), hsj 8 (by decide)]
    exact ⟨s1, s2, s3, by rw [s4], s5, s6, s7, s8⟩
def T0 (f : Nat → Int32) : Nat → Int32 := upd f 3 (f 3 + 1)
theorem T0_take {f : Nat → Int32} {c : Nat} : A_take f c = A_uses (T0 f) c := rfl
theorem takeM_rep {w : rcM} {k : Nat} {g : Nat → Int32} (h : Rep w k g) : Rep (rcu w (sid k) 5 (w (sid k) 5 + 1)) k (T0 g) ∧ Kp w (rcu w (sid k) 5 (w (sid k) 5 + 1)) k := by
  have hi : ∀ i j, T0 g (ix i j) = g (ix i j) := fun i j => by unfold T0; rw [pk_un (ix_g (by decide))]
  obtain ⟨s1, s2, s3, s4, s5, s6, s7, s8⟩ := h.2
  refine ⟨⟨fun i hi' => (h.1 i hi').congr (rcu_ne ne_sc.symm) (rcu_ne ne_sd.symm) (fun j _ => hi i j), ?_⟩, fun id hid => rcu_ne (fun e => hid (e ▸ blk_s)), fun i hi' => by rw [rcu_ne ne_sc.symm], rcu_k (by decide)⟩
  unfold RpS T0
  rw [pk_un (by decide), pk_un (by decide), pk_un (by decide), pk_un (by decide), pk_us, pk_un (by decide), pk_un (by decide), pk_un (by decide), rcu_k (by decide), rcu_k (by decide), rcu_k (by decide), rcu_k (by decide), rcu_self, rcu_k (by decide), rcu_k (by decide), rcu_k (by decide)]
  exact ⟨s1, s2, s3, s4, by rw [s5], s6, s7, s8⟩
/-- what is read of a cell -/
theorem Rep.kind {v : rcM} {k c : Nat} {f : Nat → Int32} (h : Rep v k f) (hc : c < 10) : v (cid k c + 10) 0 = -1 ↔ f (ix c 0) = 0 := by
  have q := (h.1 c hc).1.1
  rw [← q]
  exact ⟨fun z => by rw [z]; decide, fun z => inj1 (by rw [z]; decide)⟩
theorem Rep.told {v : rcM} {k c : Nat} {f : Nat → Int32} (h : Rep v k f) (hc : c < 10) (hf : Fr f c) : C_told v (cid k c) = A_ans f c := by
  unfold C_told A_ans
  by_cases e : f (ix c 0) = 0
  · rw [if_pos ((h.kind hc).mpr e), if_pos e]; exact (h.1 c hc).1.2.1
  · rw [if_neg (fun z => e ((h.kind hc).mp z)), if_neg e]
    exact ((h.1 c hc).2.2.2 (hf.elim (fun z => absurd z e) (fun z => z.1))).2.1
theorem Rep.chg {v : rcM} {k c : Nat} {f : Nat → Int32} (h : Rep v k f) (hc : c < 10) (hf : Fr f c) : v (cid k c) 1 = A_chg f c := by
  unfold A_chg
  by_cases e : f (ix c 0) = 0
  · rw [if_pos e]; exact (h.1 c hc).2.1 e
  · rw [if_neg e]
    exact ((h.1 c hc).2.2.2 (hf.elim (fun z => absurd z e) (fun z => z.1))).1
theorem Rep.sec {v : rcM} {k c : Nat} {f : Nat → Int32} {x : Int32} (h : Rep v k f) (hc : c < 10) : C_sec (v (cid k c + 10) 0) (v (cid k c + 10) 3) (v (cid k c + 10) 4) x = if f (ix c 0) = 5 ∧ x = 2000000000 then -1 else A_nxt f c x := by
  obtain ⟨⟨q0, -, -, q3, q4⟩, -⟩ := h.1 c hc
  have e : v (cid k c + 10) 0 = 4 ↔ f (ix c 0) = 5 := by
    rw [← q0]
    exact ⟨fun z => by rw [z]; decide, fun z => inj1 (by rw [z]; decide)⟩
  unfold C_sec A_nxt
  rw [q3, q4]
  by_cases h5 : f (ix c 0) = 5
  · rw [if_pos (e.mpr h5)]
    by_cases hx : x = 2000000000
    · rw [if_pos hx, if_pos ⟨h5, hx⟩]
    · rw [if_neg hx, if_neg (show ¬ (f (ix c 0) = 5 ∧ x = 2000000000) from fun z => hx z.2)]
      by_cases hp : 0 < x
      · rw [if_pos hp, if_neg (fun z => Int32.not_lt.mpr z.2 hp)]
      · rw [if_neg hp, if_pos ⟨h5, Int32.not_lt.mp hp⟩]
  · rw [if_neg (fun z => h5 (e.mp z)), if_neg (fun z => h5 z.1), if_neg (fun z => h5 z.1)]
theorem bnd_ok32 {x : Int32} (h : okA x) (hx : ¬ x = 2000000000) : bnd x.toInt64 = x := by
  have h2 : -1000000000 ≤ x.toInt ∧ x.toInt ≤ 1000000000 := h.elim (fun z => absurd z hx) id
  unfold bnd
  rw [if_neg]
  · exact Int32.toInt32_toInt64 x
  · rintro (z | z)
    · have q := Int64.lt_iff_toInt_lt.mp z
      rw [Int32.toInt_toInt64] at q
      have : ((-1000000000 : Int64)).toInt = -1000000000 := by decide
      omega
    · have q := Int64.lt_iff_toInt_lt.mp z
      rw [Int32.toInt_toInt64] at q
      have : ((1000000000 : Int64)).toInt = 1000000000 := by decide
      omega
theorem Rep.give {v : rcM} {k c : Nat} {f : Nat → Int32} {x y : Int32} (h : Rep v k f) (hc : c < 10) (hx : okA x) (hy : okA y) (h0 : ¬ f (ix c 0) = 0) : C_give (v (cid k c + 10) 0) x y = A_made (f (ix c 0)) x y := by
  have q0 := (h.1 c hc).1.1
  have e : ∀ a : Int32, v (cid k c + 10) 0 = a ↔ f (ix c 0) = a + 1 := fun a => by
    rw [← q0]
    exact ⟨fun z => by rw [z], fun z => inj1 z⟩
  unfold C_give A_made
  by_cases ht : x = 2000000000 ∨ y = 2000000000
  · rw [if_pos ht, if_pos ht]
  · rw [if_neg ht, if_neg ht]
    unfold C_give1
    by_cases h1 : f (ix c 0) = 1
    · rw [if_pos ((e 0).mpr h1), if_pos h1]
    · rw [if_neg (fun z => h1 ((e 0).mp z)), if_neg h1]
      by_cases h2 : f (ix c 0) = 2
      · rw [if_pos ((e 1).mpr h2), if_pos h2]
      · rw [if_neg (fun z => h2 ((e 1).mp z)), if_neg h2]
        by_cases h3 : f (ix c 0) = 3
        · rw [if_pos ((e 2).mpr h3), if_pos h3]
        · rw [if_neg (fun z => h3 ((e 2).mp z)), if_neg h3]
          by_cases h4 : f (ix c 0) = 4
          · rw [if_pos ((e 3).mpr h4), if_pos h4]
            by_cases hl : y < x
            · rw [if_pos hl, if_neg (fun z => by rw [Int32.lt_iff_toInt_lt] at hl z; omega)]
              exact bnd_ok32 hx (fun z => ht (Or.inl z))
            · rw [if_neg hl]
              by_cases hl2 : x < y
              · rw [if_pos hl2]; exact bnd_ok32 hy (fun z => ht (Or.inr z))
              · have exy : x = y := Int32.toInt_inj.mp (by rw [Int32.lt_iff_toInt_lt] at hl hl2; omega)
                rw [if_neg hl2, exy]; exact bnd_ok32 hy (fun z => ht (Or.inr z))
          · rw [if_neg (fun z => h4 ((e 3).mp z)), if_neg h4]
            exact bnd_ok32 hy (fun z => ht (Or.inr z))
