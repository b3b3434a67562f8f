/-! The class: its history. -/
theorem j_tr {sh : rcH} {N : Nat} {Y : rcY} {X : rcX} {K : Option Value → rcM → Prop} {pc : Nat} {l : List (Nat × Value)} {st : List Value} {v : rcM} {a b : Nat} (h : a = b) (k : rcJ sh N Y X K pc l (.ref (Y.2.1 b) :: st) v) : rcJ sh N Y X K pc l (.ref (Y.2.1 a) :: st) v := h ▸ k
/-- row j of the history -/
def rwH (p : Nat → Int32) (j : Nat) : Nat → Int32 := fun k => p (158 * j + k)
/-- the history's states, in their order -/
def HQ (v : rcM) (q : Nat → Nat) : Prop := (∀ j, j < 4 → (v 2 j).toNatClampNeg = sid (q j) ∧ 2 ≤ q j ∧ q j < 6) ∧ ∀ i j, i < 4 → j < 4 → q i = q j → i = j
/-- what the class stands for -/
def CR (v : rcM) (f p : Nat → Int32) (n : Nat) (tx : Nat → Int32) (ln : Nat) : Prop := Rep v 0 f ∧ v 1 1 = nI n ∧ (∃ q : Nat → Nat, HQ v q ∧ ∀ j, j < n → Rep v (q j) (rwH p j)) ∧ v 3 1 = nI ln ∧ ∀ i, i < ln → v 4 i = tx i
theorem CR.frame {v u : rcM} {f p tx : Nat → Int32} {n ln : Nat} (h : CR v f p n tx ln) (hn : n ≤ 4) (e : ∀ id, ¬ Blk 1 id → id ≠ 6 → (id ≠ 3 ∧ id ≠ 5) → u id = v id) (e3 : u 3 1 = v 3 1) : CR u f p n tx ln := by
  obtain ⟨h0, h1, ⟨q, hq, hr⟩, h3, h4⟩ := h
  have f2 : u 2 = v 2 := e 2 (by unfold Blk; omega) (by decide) (by decide)
  refine ⟨h0.blk (fun id hid => e id (by unfold Blk at *; omega) (by unfold Blk at hid; omega) (by unfold Blk at hid; omega)), by rw [e 1 (by unfold Blk; omega) (by decide) (by decide)]; exact h1, ⟨q, ?_, fun j hj => ?_⟩, by rw [e3]; exact h3, fun i hi => by rw [e 4 (by unfold Blk; omega) (by decide) (by decide)]; exact h4 i hi⟩
  · unfold HQ at *; rw [f2]; exact hq
  · have b := hq.1 j (by omega)
    exact (hr j hj).blk (fun id hid => e id (by unfold Blk at *; omega) (by unfold Blk at hid; omega) (by unfold Blk at hid; omega))
theorem sid_lt {k : Nat} (h : k < 6) : sid k < 2 ^ 31 := by show 22 * k + 7 < 2 ^ 31; omega
theorem nI_sid {k : Nat} (h : k < 6) : (nI (sid k)).toNatClampNeg = sid k := nI_clamp (sid_lt h)
/-- the oldest state goes to the end -/
def rotM (v : rcM) (q : Nat → Nat) : rcM := rcu (rcu (rcu (rcu (rcu v 2 0 (nI (sid (q 1)))) 2 1 (nI (sid (q 2)))) 2 2 (nI (sid (q 3)))) 2 3 (nI (sid (q 0)))) 1 1 3
theorem rot_o {v : rcM} {q : Nat → Nat} {id : Nat} (h1 : id ≠ 1) (h2 : id ≠ 2) : rotM v q id = v id := by
  unfold rotM
  rw [rcu_ne h1, rcu_ne h2, rcu_ne h2, rcu_ne h2, rcu_ne h2]
theorem rot_HQ {v : rcM} {q : Nat → Nat} (h : HQ v q) : HQ (rotM v q) (fun j => if j < 3 then q (j + 1) else q 0) := by
  obtain ⟨h1, h2⟩ := h
  have a0 : rotM v q 2 0 = nI (sid (q 1)) := by unfold rotM; rw [rcu_ne (by decide), rcu_k (by decide), rcu_k (by decide), rcu_k (by decide), rcu_self]
  have a1 : rotM v q 2 1 = nI (sid (q 2)) := by unfold rotM; rw [rcu_ne (by decide), rcu_k (by decide), rcu_k (by decide), rcu_self]
  have a2 : rotM v q 2 2 = nI (sid (q 3)) := by unfold rotM; rw [rcu_ne (by decide), rcu_k (by decide), rcu_self]
  have a3 : rotM v q 2 3 = nI (sid (q 0)) := by unfold rotM; rw [rcu_ne (by decide), rcu_self]
  refine ⟨fun j hj => ?_, fun i j hi hj e => ?_⟩
  · have cases4 : j = 0 ∨ j = 1 ∨ j = 2 ∨ j = 3 := by omega
    rcases cases4 with rfl | rfl | rfl | rfl
    · rw [a0]; exact ⟨nI_sid (h1 1 (by decide)).2.2, (h1 1 (by decide)).2⟩
    · rw [a1]; exact ⟨nI_sid (h1 2 (by decide)).2.2, (h1 2 (by decide)).2⟩
    · rw [a2]; exact ⟨nI_sid (h1 3 (by decide)).2.2, (h1 3 (by decide)).2⟩
    · rw [a3]; exact ⟨nI_sid (h1 0 (by decide)).2.2, (h1 0 (by decide)).2⟩
  · dsimp only at e
    by_cases ci : i < 3
    · rw [if_pos ci] at e
      by_cases cj : j < 3
      · rw [if_pos cj] at e
        have := h2 (i + 1) (j + 1) (by omega) (by omega) e
        omega
      · rw [if_neg cj] at e
        have := h2 (i + 1) 0 (by omega) (by omega) e
        omega
    · rw [if_neg ci] at e
      by_cases cj : j < 3
      · rw [if_pos cj] at e
        have := h2 0 (j + 1) (by omega) (by omega) e
        omega
      · omega
set_option maxHeartbeats 4000000 in
set_option maxRecDepth 100000 in
theorem c_dropOldest {Y : rcY} {la : Launch} {v : rcM} {q : Nat → Nat} (hq : HQ v q) : rcT shC 139 Y la 0 (yX2_dropOldest, cX2_dropOldest, 3, none) [.ref (Y.2.1 1)] (v) (rV (rotM v q)) := by
  refine rcT.of (by decide +kernel) (Nat.le_of_ble_eq_true rfl) (fun X F hn => ?_)
  refine j_aload_n F.1 dX2_dropOldest_0 rfl ?_
  refine j_getr F (k := 0) inX2 rfl (by decide) fl_X2_11 ⟨by decide, rfl⟩ rfl dX2_dropOldest_1 ?_
  refine j_iconst F.1 (0) dX2_dropOldest_4 (by decide) ?_
  refine j_aald2 F ⟨by decide, rfl⟩ (show (0 : Int32) = nI 0 from rfl) (by decide) (by decide) dX2_dropOldest_5 ?_
  refine j_tr (hq.1 0 (by decide)).1 ?_
  refine j_astore_n F.1 dX2_dropOldest_6 (by rw [hn]; decide) ?_
  refine j_iconst F.1 (1) dX2_dropOldest_7 (by decide) ?_
  refine j_istore_n F.1 dX2_dropOldest_8 (by rw [hn]; decide) ?_
  refine j_iload_n F.1 dX2_dropOldest_9 rfl ?_
  refine j_iconst F.1 (4) dX2_dropOldest_10 (by decide) ?_
  refine j_icmp_ge F.1 34 dX2_dropOldest_11 (by decide) (fun h11 => False.elim (by revert h11; decide)) (fun _ => ?_)
  refine j_aload_n F.1 dX2_dropOldest_14 rfl ?_
  refine j_getr F (k := 0) inX2 rfl (by decide) fl_X2_11 ⟨by decide, rfl⟩ rfl dX2_dropOldest_15 ?_
  refine j_iload_n F.1 dX2_dropOldest_18 rfl ?_
  refine j_iconst F.1 (1) dX2_dropOldest_19 (by decide) ?_
  refine j_isub F.1 dX2_dropOldest_20 ?_
  refine j_aload_n F.1 dX2_dropOldest_21 rfl ?_
  refine j_getr F (k := 0) inX2 rfl (by decide) fl_X2_11 ⟨by decide, rfl⟩ rfl dX2_dropOldest_22 ?_
  refine j_iload_n F.1 dX2_dropOldest_25 rfl ?_
  refine j_aald2 F ⟨by decide, rfl⟩ (show _ = nI 1 from rfl) (by decide) (by decide) dX2_dropOldest_26 ?_
  refine j_tr (b := sid (q 1)) (by skip; exact (hq.1 1 (by decide)).1) ?_
  refine j_aast2 F ⟨by decide, rfl⟩ (sh_st (hq.1 1 (by decide)).2.2) (show _ = nI 0 from rfl) (by decide) (by decide) (sid_lt (hq.1 1 (by decide)).2.2) dX2_dropOldest_27 ?_
  refine j_iinc F.1 (1) dX2_dropOldest_28 (by decide) rfl (by rw [hn]; decide) ?_
  refine j_goto F.1 9 dX2_dropOldest_31 (by decide) ?_
  refine j_iload_n F.1 dX2_dropOldest_9 rfl ?_
  refine j_iconst F.1 (4) dX2_dropOldest_10 (by decide) ?_
  refine j_icmp_ge F.1 34 dX2_dropOldest_11 (by decide) (fun h11 => False.elim (by revert h11; decide)) (fun _ => ?_)
  refine j_aload_n F.1 dX2_dropOldest_14 rfl ?_
  refine j_getr F (k := 0) inX2 rfl (by decide) fl_X2_11 ⟨by decide, rfl⟩ rfl dX2_dropOldest_15 ?_
  refine j_iload_n F.1 dX2_dropOldest_18 rfl ?_
  refine j_iconst F.1 (1) dX2_dropOldest_19 (by decide) ?_
  refine j_isub F.1 dX2_dropOldest_20 ?_
  refine j_aload_n F.1 dX2_dropOldest_21 rfl ?_
  refine j_getr F (k := 0) inX2 rfl (by decide) fl_X2_11 ⟨by decide, rfl⟩ rfl dX2_dropOldest_22 ?_
  refine j_iload_n F.1 dX2_dropOldest_25 rfl ?_
  refine j_aald2 F ⟨by decide, rfl⟩ (show _ = nI 2 from rfl) (by decide) (by decide) dX2_dropOldest_26 ?_
  refine j_tr (b := sid (q 2)) (by rw [rcu_k (by decide)]; exact (hq.1 2 (by decide)).1) ?_
  refine j_aast2 F ⟨by decide, rfl⟩ (sh_st (hq.1 2 (by decide)).2.2) (show _ = nI 1 from rfl) (by decide) (by decide) (sid_lt (hq.1 2 (by decide)).2.2) dX2_dropOldest_27 ?_
  refine j_iinc F.1 (1) dX2_dropOldest_28 (by decide) rfl (by rw [hn]; decide) ?_
  refine j_goto F.1 9 dX2_dropOldest_31 (by decide) ?_
  refine j_iload_n F.1 dX2_dropOldest_9 rfl ?_
  refine j_iconst F.1 (4) dX2_dropOldest_10 (by decide) ?_
  refine j_icmp_ge F.1 34 dX2_dropOldest_11 (by decide) (fun h11 => False.elim (by revert h11; decide)) (fun _ => ?_)
  refine j_aload_n F.1 dX2_dropOldest_14 rfl ?_
  refine j_getr F (k := 0) inX2 rfl (by decide) fl_X2_11 ⟨by decide, rfl⟩ rfl dX2_dropOldest_15 ?_
  refine j_iload_n F.1 dX2_dropOldest_18 rfl ?_
  refine j_iconst F.1 (1) dX2_dropOldest_19 (by decide) ?_
  refine j_isub F.1 dX2_dropOldest_20 ?_
  refine j_aload_n F.1 dX2_dropOldest_21 rfl ?_
  refine j_getr F (k := 0) inX2 rfl (by decide) fl_X2_11 ⟨by decide, rfl⟩ rfl dX2_dropOldest_22 ?_
  refine j_iload_n F.1 dX2_dropOldest_25 rfl ?_
  refine j_aald2 F ⟨by decide, rfl⟩ (show _ = nI 3 from rfl) (by decide) (by decide) dX2_dropOldest_26 ?_
  refine j_tr (b := sid (q 3)) (by rw [rcu_k (by decide)]; rw [rcu_k (by decide)]; exact (hq.1 3 (by decide)).1) ?_
  refine j_aast2 F ⟨by decide, rfl⟩ (sh_st (hq.1 3 (by decide)).2.2) (show _ = nI 2 from rfl) (by decide) (by decide) (sid_lt (hq.1 3 (by decide)).2.2) dX2_dropOldest_27 ?_
  refine j_iinc F.1 (1) dX2_dropOldest_28 (by decide) rfl (by rw [hn]; decide) ?_
  refine j_goto F.1 9 dX2_dropOldest_31 (by decide) ?_
  refine j_iload_n F.1 dX2_dropOldest_9 rfl ?_
  refine j_iconst F.1 (4) dX2_dropOldest_10 (by decide) ?_
  refine j_icmp_ge F.1 34 dX2_dropOldest_11 (by decide) (fun _ => ?_) (fun h11 => False.elim (by revert h11; decide))
  refine j_aload_n F.1 dX2_dropOldest_34 rfl ?_
  refine j_getr F (k := 0) inX2 rfl (by decide) fl_X2_11 ⟨by decide, rfl⟩ rfl dX2_dropOldest_35 ?_
  refine j_iconst F.1 (3) dX2_dropOldest_38 (by decide) ?_
  refine j_aload_n F.1 dX2_dropOldest_39 rfl ?_
  refine j_aast2 F ⟨by decide, rfl⟩ (sh_st (hq.1 0 (by decide)).2.2) (show _ = nI 3 from rfl) (by decide) (by decide) (sid_lt (hq.1 0 (by decide)).2.2) dX2_dropOldest_40 ?_
  refine j_aload_n F.1 dX2_dropOldest_41 rfl ?_
  refine j_iconst F.1 (3) dX2_dropOldest_42 (by decide) ?_
  refine j_puti F (k := 1) inX2 tyX2_ok nmX2 rfl (by decide) fl_X2_18 rfl rfl ⟨by decide, rfl⟩ rfl dX2_dropOldest_43 ?_
  exact j_vret F dX2_dropOldest_46 ((rVe rfl))
theorem rec_end {w u : rcM} {f p tx : Nat → Int32} {m ln : Nat} {q : Nat → Nat} (hm : m < 4) (h0 : Rep w 0 f) (hq : HQ w q) (hr : ∀ j, j < m → Rep w (q j) (rwH p j)) (h3 : w 3 1 = nI ln) (h4 : ∀ i, i < ln → w 4 i = tx i) (c : Cpy w u (q m) 0) :
    CR (rcu u 1 1 (nI (m + 1))) f (put4 158 m f p) (m + 1) tx ln ∧ ∀ id, id ≠ 1 → id ≠ 2 → id < 51 → rcu u 1 1 (nI (m + 1)) id = w id := by
  have hm2 := hq.1 m hm
  have ho : Out w u (q m) := c.2.2
  have hf : ∀ id, id ≠ 1 → id < 51 → rcu u 1 1 (nI (m + 1)) id = w id := fun id h1 h51 => by rw [rcu_ne h1, ho id (by unfold Blk; omega)]
  refine ⟨⟨h0.blk (fun id hid => hf id (by unfold Blk at hid; omega) (by unfold Blk at hid; omega)), rcu_self, ⟨q, ?_, fun j hj => ?_⟩, by rw [hf 3 (by decide) (by decide)]; exact h3, fun i hi => by rw [hf 4 (by decide) (by decide)]; exact h4 i hi⟩, fun id h1 _ h51 => hf id h1 h51⟩
  · unfold HQ at *; rw [hf 2 (by decide) (by decide)]; exact hq
  · have hj2 := hq.1 j (by omega)
    have h1 : ∀ g, Rep u (q j) g → Rep (rcu u 1 1 (nI (m + 1))) (q j) g := fun g hg => hg.blk (fun id hid => rcu_ne (by unfold Blk at hid; omega))
    refine h1 _ ?_
    by_cases e : j = m
    · subst e
      refine (c.rep h0).row (fun k hk => ?_)
      unfold rwH put4
      rw [if_pos (by omega)]
      congr 1
      omega
    · refine ((hr j (by omega)).out ho (fun z => e (hq.2 j m (by omega) hm z))).row (fun k hk => ?_)
      unfold rwH put4
      rw [if_neg (by omega)]
theorem rot_R {v : rcM} {q : Nat → Nat} {p : Nat → Int32} (hq : HQ v q) (hr : ∀ j, j < 4 → Rep v (q j) (rwH p j)) : ∀ j, j < 3 → Rep (rotM v q) ((fun j => if j < 3 then q (j + 1) else q 0) j) (rwH (sh4 474 p) j) := by
  intro j hj
  dsimp only
  rw [if_pos hj]
  have b := hq.1 (j + 1) (by omega)
  refine ((hr (j + 1) (by omega)).blk (fun id hid => rot_o (by unfold Blk at hid; omega) (by unfold Blk at hid; omega))).row (fun k hk => ?_)
  unfold rwH sh4
  rw [if_pos (by omega)]
  congr 1
  omega
def KRec (v : rcM) (f p : Nat → Int32) (n : Nat) (tx : Nat → Int32) (ln : Nat) : Option Value → rcM → Prop := fun r u => r = none ∧ CR u f (H_act n f p).1 (H_act n f p).2 tx ln ∧ ∀ id, id ≠ 1 → id ≠ 2 → id < 51 → u id = v id
theorem H_n {n : Nat} {f p : Nat → Int32} (h : n < 4) : H_act n f p = (put4 158 n f p, n + 1) := by unfold H_act; rw [if_neg (by omega)]
theorem H_4 {f p : Nat → Int32} : H_act 4 f p = (put4 158 3 f (sh4 474 p), 4) := rfl
set_option maxHeartbeats 4000000 in
set_option maxRecDepth 100000 in
theorem c_record {Y : rcY} {la : Launch} {v : rcM} {f p tx : Nat → Int32} {n ln : Nat} (hn4 : n ≤ 4) (hC : CR v f p n tx ln) : rcT shC 139 Y la 3 (yX2_record, cX2_record, 2, none) [.ref (Y.2.1 1), .ref (Y.2.1 (sid 0))] (v) (KRec v f p n tx ln) := by
  refine rcT.of (by decide +kernel) (Nat.le_of_ble_eq_true rfl) (fun X F hn => ?_)
  obtain ⟨h0, h1, ⟨q, hq, hrr⟩, h3, h4⟩ := hC
  rcases Nat.lt_or_ge n 4 with hlt | hge
  · refine j_aload_n F.1 dX2_record_0 rfl ?_
    refine j_geti F (k := 1) inX2 rfl (by decide) fl_X2_18 ⟨by decide, rfl⟩ rfl dX2_record_1 ?_
    refine j_iconst F.1 (4) dX2_record_4 (by decide) ?_
    refine j_icmp_lt F.1 12 dX2_record_5 (by decide) (fun h5 => ?_) (fun h5 => ?_)
    · refine j_aload_n F.1 dX2_record_12 rfl ?_
      refine j_getr F (k := 0) inX2 rfl (by decide) fl_X2_11 ⟨by decide, rfl⟩ rfl dX2_record_13 ?_
      refine j_aload_n F.1 dX2_record_16 rfl ?_
      refine j_geti F (k := 1) inX2 rfl (by decide) fl_X2_18 ⟨by decide, rfl⟩ rfl dX2_record_17 ?_
      refine j_aald2 F ⟨by decide, rfl⟩ h1 hlt (by decide) dX2_record_20 ?_
      refine j_tr (hq.1 n hlt).1 ?_
      refine j_aload_n F.1 dX2_record_21 rfl ?_
      refine j_callV F (c_copy (hq.1 n hlt).2.2 (by decide) (show q n ≠ 0 by have := (hq.1 n hlt).2; omega)) co_X3_copy ml_X2_25 im_X3_copy se_X3_copy in_X3 rc_X3_copy rfl (by decide) (by decide) (sh_st (hq.1 n hlt).2.2) rfl rfl (Nat.le_of_ble_eq_true rfl) dX2_record_22 (fun r u hr => ?_)
      obtain ⟨rfl, hr⟩ := hr
      refine j_aload_n F.1 dX2_record_25 rfl ?_
      refine j_dup F.1 dX2_record_26 rfl ?_
      refine j_geti F (k := 1) inX2 rfl (by decide) fl_X2_18 ⟨by decide, rfl⟩ rfl dX2_record_27 ?_
      refine j_iconst F.1 (1) dX2_record_30 (by decide) ?_
      refine j_iadd F.1 dX2_record_31 ?_
      refine j_top (y := nI (n + 1)) (by rw [(hr.2.2 1 (by unfold Blk; have := (hq.1 n hlt).2; omega)), h1, nI_1]) ?_
      refine j_puti F (k := 1) inX2 tyX2_ok nmX2 rfl (by decide) fl_X2_18 rfl rfl ⟨by decide, rfl⟩ rfl dX2_record_32 ?_
      exact j_vret F dX2_record_35 ((by have e := rec_end hlt h0 hq hrr h3 h4 hr; rw [KRec, H_n hlt]; exact ⟨rfl, e⟩))
    · exact absurd (nI_lt (a := n) (b := 4) hlt (by decide)) (by rw [← h1]; first | exact h5 | exact Int32.not_lt.mpr h5)
  · have e4 : n = 4 := by omega
    subst e4
    refine j_aload_n F.1 dX2_record_0 rfl ?_
    refine j_geti F (k := 1) inX2 rfl (by decide) fl_X2_18 ⟨by decide, rfl⟩ rfl dX2_record_1 ?_
    refine j_iconst F.1 (4) dX2_record_4 (by decide) ?_
    refine j_icmp_lt F.1 12 dX2_record_5 (by decide) (fun h5 => ?_) (fun h5 => ?_)
    · exact absurd h5 (by rw [h1]; decide)
    · refine j_aload_n F.1 dX2_record_8 rfl ?_
      refine j_callVv F (c_dropOldest hq) co_X2_dropOldest ml_X2_22 im_X2_dropOldest se_X2_dropOldest in_X2 rc_X2_dropOldest rfl (by decide) (by decide) ⟨by decide, rfl⟩ rfl rfl (Nat.le_of_ble_eq_true rfl) dX2_record_9 ?_
      have hq2 := rot_HQ hq
      have r1 : rotM v q 1 1 = 3 := by unfold rotM; rw [rcu_self]
      have rR : Rep (rotM v q) 0 f := h0.blk (fun id hid => rot_o (by unfold Blk at hid; omega) (by unfold Blk at hid; omega))
      refine j_aload_n F.1 dX2_record_12 rfl ?_
      refine j_getr F (k := 0) inX2 rfl (by decide) fl_X2_11 ⟨by decide, rfl⟩ rfl dX2_record_13 ?_
      refine j_aload_n F.1 dX2_record_16 rfl ?_
      refine j_geti F (k := 1) inX2 rfl (by decide) fl_X2_18 ⟨by decide, rfl⟩ rfl dX2_record_17 ?_
      refine j_aald2 F ⟨by decide, rfl⟩ (show _ = nI 3 by unfold rotM; rw [rcu_self]; rfl) (by decide) (by decide) dX2_record_20 ?_
      refine j_tr (hq2.1 3 (by decide)).1 ?_
      refine j_aload_n F.1 dX2_record_21 rfl ?_
      refine j_callV F (c_copy (hq2.1 3 (by decide)).2.2 (by decide) (show _ ≠ 0 by have := (hq2.1 3 (by decide)).2; omega)) co_X3_copy ml_X2_25 im_X3_copy se_X3_copy in_X3 rc_X3_copy rfl (by decide) (by decide) (sh_st (hq2.1 3 (by decide)).2.2) rfl rfl (Nat.le_of_ble_eq_true rfl) dX2_record_22 (fun r u hr => ?_)
      obtain ⟨rfl, hr⟩ := hr
      refine j_aload_n F.1 dX2_record_25 rfl ?_
      refine j_dup F.1 dX2_record_26 rfl ?_
      refine j_geti F (k := 1) inX2 rfl (by decide) fl_X2_18 ⟨by decide, rfl⟩ rfl dX2_record_27 ?_
      refine j_iconst F.1 (1) dX2_record_30 (by decide) ?_
      refine j_iadd F.1 dX2_record_31 ?_
      refine j_top (y := nI 4) (by rw [(hr.2.2 1 (by unfold Blk; have := (hq2.1 3 (by decide)).2; omega)), r1]; rfl) ?_
      refine j_puti F (k := 1) inX2 tyX2_ok nmX2 rfl (by decide) fl_X2_18 rfl rfl ⟨by decide, rfl⟩ rfl dX2_record_32 ?_
      exact j_vret F dX2_record_35 ((by have e := rec_end (p := sh4 474 p) (tx := tx) (by decide) rR hq2 (rot_R hq hrr) (by rw [rot_o (by decide) (by decide)]; exact h3) (fun i hi => by rw [rot_o (by decide) (by decide)]; exact h4 i hi) hr; rw [KRec, H_4]; exact ⟨rfl, e.1, fun id i1 i2 i51 => by rw [e.2 id i1 i2 i51, rot_o i1 i2]⟩))
def KRes (v : rcM) (f p : Nat → Int32) (m : Nat) (tx : Nat → Int32) (ln : Nat) : Option Value → rcM → Prop := fun r u => r = none ∧ CR u (rwH p m) p m tx ln
theorem res_end {v u : rcM} {p tx : Nat → Int32} {m ln : Nat} {q : Nat → Nat} (hm : m < 4) (hq : HQ v q) (hr : ∀ j, j < m + 1 → Rep v (q j) (rwH p j)) (h3 : v 3 1 = nI ln) (h4 : ∀ i, i < ln → v 4 i = tx i) (c : Cpy (rcu v 1 1 (nI m)) u 0 (q m)) : CR u (rwH p m) p m tx ln := by
  have ho := c.2.2
  have hf : ∀ id, id ≠ 1 → ¬ Blk 0 id → u id = v id := fun id h1 hb => by rw [ho id hb, rcu_ne h1]
  have bb := hq.1 m hm
  refine ⟨c.rep ((hr m (by omega)).blk (fun id hid => rcu_ne (by unfold Blk at hid; omega))), ?_, ⟨q, ?_, fun j hj => ?_⟩, ?_, fun i hi => ?_⟩
  · rw [ho 1 (by unfold Blk; omega), rcu_self]
  · unfold HQ at *; rw [hf 2 (by decide) (by unfold Blk; omega)]; exact hq
  · have b2 := hq.1 j (by omega)
    exact (hr j (by omega)).blk (fun id hid => hf id (by unfold Blk at hid; omega) (by unfold Blk at *; omega))
  · rw [hf 3 (by decide) (by unfold Blk; omega)]; exact h3
  · rw [hf 4 (by decide) (by unfold Blk; omega)]; exact h4 i hi
set_option maxHeartbeats 4000000 in
set_option maxRecDepth 100000 in
theorem c_restore {Y : rcY} {la : Launch} {v : rcM} {f p tx : Nat → Int32} {m ln : Nat} (hm : m < 4) (hC : CR v f p (m + 1) tx ln) : rcT shC 139 Y la 3 (yX2_restoreLatestTo, cX2_restoreLatestTo, 2, none) [.ref (Y.2.1 1), .ref (Y.2.1 (sid 0))] (v) (KRes v f p m tx ln) := by
  refine rcT.of (by decide +kernel) (Nat.le_of_ble_eq_true rfl) (fun X F hn => ?_)
  obtain ⟨h0, h1, ⟨q, hq, hrr⟩, h3, h4q⟩ := hC
  refine j_aload_n F.1 dX2_restoreLatestTo_0 rfl ?_
  refine j_geti F (k := 1) inX2 rfl (by decide) fl_X2_18 ⟨by decide, rfl⟩ rfl dX2_restoreLatestTo_1 ?_
  refine j_top h1 ?_
  refine j_if_le F.1 30 dX2_restoreLatestTo_4 (by decide) (fun h4 => ?_) (fun h4 => ?_)
  · exact absurd h4 (nI_nle (n := m + 1) (by omega) (by omega))
  · refine j_aload_n F.1 dX2_restoreLatestTo_7 rfl ?_
    refine j_dup F.1 dX2_restoreLatestTo_8 rfl ?_
    refine j_geti F (k := 1) inX2 rfl (by decide) fl_X2_18 ⟨by decide, rfl⟩ rfl dX2_restoreLatestTo_9 ?_
    refine j_iconst F.1 (1) dX2_restoreLatestTo_12 (by decide) ?_
    refine j_isub F.1 dX2_restoreLatestTo_13 ?_
    refine j_top (y := nI m) (by rw [h1, nI_pred]) ?_
    refine j_puti F (k := 1) inX2 tyX2_ok nmX2 rfl (by decide) fl_X2_18 rfl rfl ⟨by decide, rfl⟩ rfl dX2_restoreLatestTo_14 ?_
    refine j_aload_n F.1 dX2_restoreLatestTo_17 rfl ?_
    refine j_aload_n F.1 dX2_restoreLatestTo_18 rfl ?_
    refine j_getr F (k := 0) inX2 rfl (by decide) fl_X2_11 ⟨by decide, rfl⟩ rfl dX2_restoreLatestTo_19 ?_
    refine j_aload_n F.1 dX2_restoreLatestTo_22 rfl ?_
    refine j_geti F (k := 1) inX2 rfl (by decide) fl_X2_18 ⟨by decide, rfl⟩ rfl dX2_restoreLatestTo_23 ?_
    refine j_aald2 F ⟨by decide, rfl⟩ rcu_self hm (by decide) dX2_restoreLatestTo_26 ?_
    refine j_tr (b := sid (q m)) (by rw [rcu_ne (by decide)]; exact (hq.1 m hm).1) ?_
    refine j_callV F (c_copy (by decide) (hq.1 m hm).2.2 (show 0 ≠ q m by have := (hq.1 m hm).2; omega)) co_X3_copy ml_X2_25 im_X3_copy se_X3_copy in_X3 rc_X3_copy rfl (by decide) (by decide) (sh_st (by decide)) rfl rfl (Nat.le_of_ble_eq_true rfl) dX2_restoreLatestTo_27 (fun r u hr => ?_)
    obtain ⟨rfl, hr⟩ := hr
    exact j_vret F dX2_restoreLatestTo_30 ⟨rfl, res_end hm hq hrr h3 h4q hr⟩
