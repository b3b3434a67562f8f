/-! The law: texts played. -/
theorem let_m1 {c : Int32} (h : letB c = true) : ¬ c = -1 := fun z => by
  rw [z] at h
  exact absurd h (by decide)
theorem dig_m1 {c : Int32} (h : digB c = true) : ¬ c = -1 := fun z => by
  rw [z] at h
  exact absurd h (by decide)
theorem kf_n1 {c : Int32} (h : ¬ kf c = 0) : ¬ c = -1 := fun z => by
  rw [z] at h
  exact h (by decide)
theorem eq_m1 {c x : Int32} (h : c = x) (hx : ¬ x = -1) : ¬ c = -1 := fun z => hx (h.symm.trans z)
theorem dg_ln {tx : Nat → Int32} {ln : Nat} : ∀ (k p : Nat) (x : Int32), p ≤ ln → (dg tx ln k p x).1 ≤ ln := by
  intro k
  induction k with
  | zero => intro p x h; exact h
  | succ k ih =>
    intro p x h
    rw [dg_s]
    split
    · rename_i hd
      exact ih _ _ (chr_lt (dig_m1 hd))
    · exact h
theorem PN_ln {tx : Nat → Int32} {ln p : Nat} (h : p ≤ ln) : (PN tx ln p).1 ≤ ln := by
  unfold PN
  split
  · rename_i hc
    have := dg_ln (tx := tx) 5 (p + 1) 0 (chr_lt (eq_m1 hc (by decide)))
    split <;> exact this
  · have := dg_ln (tx := tx) 5 p 0 h
    split <;> exact this
theorem PF_ln {tx : Nat → Int32} {ln p : Nat} {x : Int32} (h : p ≤ ln) : (PF tx ln p x).1 ≤ ln := by
  unfold PF
  split
  · exact h
  · rename_i h1
    have l1 : p < ln := chr_lt (kf_n1 h1)
    split
    · exact l1
    · rename_i h2
      have l2 : p + 1 < ln := chr_lt (let_m1 (by cases e : letB (chr tx ln (p + 1)) with | true => rfl | false => exact absurd e h2))
      split
      · split
        · rename_i h3
          have l3 : p + 2 < ln := chr_lt (eq_m1 h3 (by decide))
          split
          · exact l3
          · rename_i h4
            exact chr_lt (let_m1 (by cases e : letB (chr tx ln (p + 3)) with | true => rfl | false => exact absurd e h4))
        · exact l2
      · exact l2
theorem PB_ln {tx : Nat → Int32} {ln p : Nat} (h : p ≤ ln) : (PB tx ln p).1 ≤ ln := by
  unfold PB
  split
  · rename_i hl
    exact PF_ln (chr_lt (let_m1 hl))
  · exact PN_ln h
theorem PR_ln {tx : Nat → Int32} {ln p : Nat} (h : p < ln) : p ≤ (PR tx ln p).1 ∧ (PR tx ln p).1 ≤ ln := by
  unfold PR
  split
  · exact ⟨Nat.le_refl _, Nat.le_of_lt h⟩
  · split
    · rename_i h2
      have l2 : p + 1 < ln := chr_lt (eq_m1 h2 (by decide))
      have a := PB_ge (tx := tx) (ln := ln) (p := p + 2)
      have b := PB_ln (tx := tx) (ln := ln) (p := p + 2) l2
      cases e : PB tx ln (p + 2) with
      | mk q o =>
        rw [e] at a b
        have a : p + 2 ≤ q := a
        have b : q ≤ ln := b
        cases o with
        | none => exact ⟨by show p ≤ q; omega, b⟩
        | some d =>
          dsimp only
          split
          · rename_i h3
            have l3 : q < ln := chr_lt (eq_m1 h3 (by decide))
            exact ⟨by show p ≤ q + 1; omega, l3⟩
          · exact ⟨by show p ≤ q; omega, b⟩
    · exact ⟨Nat.le_succ _, h⟩
theorem PR_59 {tx : Nat → Int32} {ln p q : Nat} {d : Int32 × D5} (h : PR tx ln p = (q, some d)) : ∃ k, q = k + 1 ∧ p ≤ k ∧ k < ln ∧ tx k = 59 := by
  unfold PR at h
  split at h
  · cases h
  · split at h
    · have hb := PB_ge (tx := tx) (ln := ln) (p := p + 2)
      cases e : PB tx ln (p + 2) with
      | mk q' od =>
        rw [e] at h hb
        cases od with
        | none => cases h
        | some d' =>
          dsimp only at h hb
          split at h
          · rename_i h59
            cases h
            have l := chr_lt (tx := tx) (ln := ln) (p := q') (by rw [h59]; decide)
            exact ⟨q', rfl, by omega, l, by rw [← chr_tx (tx := tx) l]; exact h59⟩
          · cases h
    · cases h
theorem brk_ln {tx : Nat → Int32} {ln : Nat} : ∀ (n p : Nat) (q : Nat × Nat), brk tx ln n p = some q → q.1 < ln ∧ q.1 ≤ q.2 ∧ q.2 ≤ ln := by
  intro n
  induction n with
  | zero => intro p q h; cases h
  | succ n ih =>
    intro p q h
    rw [brk_s] at h
    by_cases hp : p < ln
    · rw [if_pos hp] at h
      have l := PR_ln (tx := tx) hp
      cases e : PR tx ln p with
      | mk a d =>
        rw [e] at h l
        cases d with
        | none => cases h; exact ⟨hp, l⟩
        | some d => exact ih _ _ h
    · rw [if_neg hp] at h; cases h
/-- as many definitions as there are ";" at most -/
theorem play_rev {tx : Nat → Int32} {ln : Nat} : ∀ (n p : Nat) (f : Nat → Int32) (B : Int), INV f B → B + n < 2 ^ 31 - 1 → p ≤ ln → (f 0).toInt ≤ (A_play tx ln n f p 0).toInt ∧ (A_play tx ln n f p 0).toInt + (sc tx p : Int) ≤ (f 0).toInt + (sc tx ln : Int) := by
  intro n
  induction n with
  | zero =>
    intro p f B h hB hp
    have := sc_mono (tx := tx) _ hp
    show (f 0).toInt ≤ (f 0).toInt ∧ (f 0).toInt + _ ≤ _
    omega
  | succ n ih =>
    intro p f B h hB hp
    have m := sc_mono (tx := tx) _ hp
    rw [play_s]
    split
    · cases e : PR tx ln p with
      | mk q o =>
        cases o with
        | none => dsimp only; omega
        | some d =>
          obtain ⟨d1, d2⟩ := PR_DV e
          obtain ⟨k, rfl, k1, k2, k3⟩ := PR_59 e
          dsimp only
          have h5 := h.2.2.2.2
          obtain ⟨-, w1, w2⟩ := A_def_wf h.1 (cN_ok d1).1 d2 (by omega)
          obtain ⟨a1, a2⟩ := ih (k + 1) _ (B + 1) (inv_def h (by omega) (cN_ok d1).1 d2) (by omega) k2
          have s1 := sc_mono (tx := tx) _ k1
          have s2 : sc tx (k + 1) = sc tx k + 1 := by
            show sc tx k + (if tx k = 59 then 1 else 0) = _
            rw [if_pos k3]
          omega
    · omega
/-- what an act leaves: the state as it was, or a change -/
def AQ (u : rcM) (f p : Nat → Int32) (n : Nat) (B : Int) : Prop := ∃ (tx : Nat → Int32) (ln : Nat), ln ≤ 60 ∧ (CR u f p n tx ln ∨ ∃ g, INV g B ∧ CR u g (H_act n f p).1 (H_act n f p).2 tx ln)
theorem rev_3 {a b : Int32} (h0 : 0 ≤ a.toInt) (h : b.toInt ≤ a.toInt + 3) (hb : a.toInt < 2 ^ 31 - 10) : ¬ a + 3 < b := fun z => by
  obtain ⟨j, hj, rfl⟩ := nI_of (x := a) (fun z => by have := Int32.lt_iff_toInt_lt.mp z; rw [Int32.toInt_zero] at this; omega)
  rw [nI_toInt hj] at h hb
  have e : nI j + 3 = nI (j + 3) := nI_add j 3
  rw [e, Int32.lt_iff_toInt_lt, nI_toInt (by omega)] at z
  omega
theorem nI_m {a : Nat} (h : a < 2 ^ 31) : ¬ nI a = -2000000004 := fun z => by
  have q := nI_pos h
  rw [z] at q
  exact q (by decide)
set_option maxHeartbeats 8000000 in
set_option maxRecDepth 100000 in
theorem c_plays {Y : rcY} {la : Launch} {v : rcM} {f p : Nat → Int32} {n : Nat} {B : Int} (hn4 : n ≤ 4) (hT : TQ v f p n 24 3) (hI : INV f B) (hB : B + 100 < 2 ^ 31 - 1) : rcT shC 139 Y la 7 (yL_plays, cL_plays, 8, (some .boolean)) [.ref (Y.2.1 0)] (v) (fun r u => r = some (.int 1) ∧ AQ u f p n (B + 61)) := by
  refine rcT.of (by decide +kernel) (Nat.le_of_ble_eq_true rfl) (fun X F hn => ?_)
  obtain ⟨tx, ln, hu, hl24, hs⟩ := hT
  have hl60 : ln ≤ 60 := by omega
  cases eb : brk tx ln 61 0 with
  | none =>
    have fn0 : S_fault tx ln 0 = -2000000004 := by unfold S_fault; rw [if_pos (by decide), eb]
    have fn1 : S_fault tx ln 1 = -2000000004 := by unfold S_fault; rw [if_pos (by decide), eb]
    have ep : S_play f p n tx ln = S_act (A_play tx ln 61 f 0 0) f (A_play tx ln 61 f 0) p n := by unfold S_play; rw [eb]
    have pr := play_rev (tx := tx) (ln := ln) 61 0 f B hI (by omega) (Nat.zero_le _)
    have hg := inv_play (tx := tx) (ln := ln) 61 0 f B hI (by omega)
    have hN4 : (H_act n f p).2 ≤ 4 := H_le hn4
    refine j_aload_n F.1 dL_plays_0 rfl ?_
    refine j_iconst F.1 (0) dL_plays_1 (by decide) ?_
    refine j_callV F (c_fault hn4 hu hl60 (x := 0)) co_X5_fault ml_L_47 im_X5_fault se_X5_fault in_X5 rc_X5_fault rfl (by decide) (by decide) ⟨by decide, rfl⟩ rfl rfl (Nat.le_of_ble_eq_true rfl) dL_plays_2 (fun r u hr => ?_)
    obtain ⟨rfl, hu⟩ := hr
    refine j_tl ?_
    refine j_top (fn0) ?_
    refine j_istore_n F.1 dL_plays_5 (by rw [hn]; decide) ?_
    refine j_aload_n F.1 dL_plays_6 rfl ?_
    refine j_iconst F.1 (1) dL_plays_7 (by decide) ?_
    refine j_callV F (c_fault hn4 hu hl60 (x := 1)) co_X5_fault ml_L_47 im_X5_fault se_X5_fault in_X5 rc_X5_fault rfl (by decide) (by decide) ⟨by decide, rfl⟩ rfl rfl (Nat.le_of_ble_eq_true rfl) dL_plays_8 (fun r u hr => ?_)
    obtain ⟨rfl, hu⟩ := hr
    refine j_tl ?_
    refine j_top (fn1) ?_
    refine j_istore_n F.1 dL_plays_11 (by rw [hn]; decide) ?_
    refine j_aload_n F.1 dL_plays_12 rfl ?_
    refine j_bipush F.1 (9) dL_plays_13 (by decide) ?_
    refine j_callV F (c_count hn4 hu) co_X5_count ml_L_13 im_X5_count se_X5_count in_X5 rc_X5_count rfl (by decide) (by decide) ⟨by decide, rfl⟩ rfl rfl (Nat.le_of_ble_eq_true rfl) dL_plays_15 (fun r u hr => ?_)
    obtain ⟨rfl, hu⟩ := hr
    refine j_tl ?_
    refine j_top (show S_count f n (nI ln) 9 = nI ln from rfl) ?_
    refine j_istore_n F.1 dL_plays_18 (by rw [hn]; decide) ?_
    refine j_aload_n F.1 dL_plays_19 rfl ?_
    refine j_iconst F.1 (0) dL_plays_20 (by decide) ?_
    refine j_callV F (c_count hn4 hu) co_X5_count ml_L_13 im_X5_count se_X5_count in_X5 rc_X5_count rfl (by decide) (by decide) ⟨by decide, rfl⟩ rfl rfl (Nat.le_of_ble_eq_true rfl) dL_plays_21 (fun r u hr => ?_)
    obtain ⟨rfl, hu⟩ := hr
    refine j_tl ?_
    refine j_top (show S_count f n (nI ln) 0 = f 0 from rfl) ?_
    refine j_istore F.1 dL_plays_24 (by rw [hn]; decide) ?_
    refine j_aload_n F.1 dL_plays_26 rfl ?_
    refine j_callV F (c_play hn4 hu hl60) co_X5_play ml_L_50 im_X5_play se_X5_play in_X5 rc_X5_play rfl (by decide) (by decide) ⟨by decide, rfl⟩ rfl rfl (Nat.le_of_ble_eq_true rfl) dL_plays_27 (fun r u hr => ?_)
    rw [ep] at hr
    obtain ⟨rfl, hu⟩ := hr
    refine j_tl ?_
    refine j_istore F.1 dL_plays_30 (by rw [hn]; decide) ?_
    refine j_iload_n F.1 dL_plays_32 rfl ?_
    refine j_ldc F cn_L_31 dL_plays_33 ?_
    refine j_icmp_ne F.1 74 dL_plays_35 (by decide) (fun h35 => ?_) (fun h35 => ?_)
    · exact absurd rfl h35
    · refine j_iload_n F.1 dL_plays_38 rfl ?_
      refine j_ldc F cn_L_31 dL_plays_39 ?_
      refine j_icmp_ne F.1 74 dL_plays_41 (by decide) (fun h41 => ?_) (fun h41 => ?_)
      · exact absurd rfl h41
      · refine j_iload F.1 dL_plays_44 rfl ?_
        refine j_iload F.1 dL_plays_46 rfl ?_
        refine j_icmp_lt F.1 74 dL_plays_48 (by decide) (fun h48 => ?_) (fun h48 => ?_)
        · exact absurd h48 (Int32.not_lt.mpr (Int32.le_iff_toInt_le.mpr pr.1))
        · refine j_iload F.1 dL_plays_51 rfl ?_
          refine j_iload F.1 dL_plays_53 rfl ?_
          refine j_iconst F.1 (3) dL_plays_55 (by decide) ?_
          refine j_iadd F.1 dL_plays_56 ?_
          refine j_icmp_gt F.1 74 dL_plays_57 (by decide) (fun h57 => ?_) (fun h57 => ?_)
          · exact absurd (show f 0 + 3 < A_play tx ln 61 f 0 0 from h57) (rev_3 hI.1.2.1 (by have := pr.2; have : sc tx 0 = 0 := rfl; omega) (by have := hI.2.2.2.2; omega))
          · refine j_aload_n F.1 dL_plays_60 rfl ?_
            refine j_iconst F.1 (0) dL_plays_61 (by decide) ?_
            refine j_callV F (c_count hN4 hu) co_X5_count ml_L_13 im_X5_count se_X5_count in_X5 rc_X5_count rfl (by decide) (by decide) ⟨by decide, rfl⟩ rfl rfl (Nat.le_of_ble_eq_true rfl) dL_plays_62 (fun r u hr => ?_)
            obtain ⟨rfl, hu⟩ := hr
            refine j_tl ?_
            refine j_top (show S_count _ _ (nI ln) 0 = A_play tx ln 61 f 0 0 from rfl) ?_
            refine j_iload F.1 dL_plays_65 rfl ?_
            refine j_icmp_ne F.1 74 dL_plays_67 (by decide) (fun h67 => ?_) (fun h67 => ?_)
            · exact absurd rfl h67
            · refine j_iconst F.1 (1) dL_plays_70 (by decide) ?_
              refine j_goto F.1 75 dL_plays_71 (by decide) ?_
              refine j_istore F.1 dL_plays_75 (by rw [hn]; decide) ?_
              refine j_iload_n F.1 dL_plays_77 rfl ?_
              refine j_if_lt F.1 118 dL_plays_78 (by decide) (fun h78 => ?_) (fun h78 => ?_)
              · refine j_iconst F.1 (0) dL_plays_118 (by decide) ?_
                refine j_istore F.1 dL_plays_119 (by rw [hn]; decide) ?_
                refine j_iload F.1 dL_plays_121 rfl ?_
                refine j_if_ne F.1 131 dL_plays_123 (by decide) (fun _ => ?_) (fun h123 => False.elim (by revert h123; decide))
                refine j_aload_n F.1 dL_plays_131 rfl ?_
                refine j_bipush F.1 (9) dL_plays_132 (by decide) ?_
                refine j_callV F (c_count hN4 hu) co_X5_count ml_L_13 im_X5_count se_X5_count in_X5 rc_X5_count rfl (by decide) (by decide) ⟨by decide, rfl⟩ rfl rfl (Nat.le_of_ble_eq_true rfl) dL_plays_134 (fun r u hr => ?_)
                obtain ⟨rfl, hu⟩ := hr
                refine j_tl ?_
                refine j_top (show S_count _ _ (nI ln) 9 = nI ln from rfl) ?_
                refine j_iload_n F.1 dL_plays_137 rfl ?_
                refine j_icmp_ne F.1 145 dL_plays_138 (by decide) (fun h138 => ?_) (fun h138 => ?_)
                · exact absurd rfl h138
                · refine j_iconst F.1 (1) dL_plays_141 (by decide) ?_
                  refine j_goto F.1 146 dL_plays_142 (by decide) ?_
                  exact j_zret F (Or.inr rfl) dL_plays_146 ⟨rfl, tx, ln, hl60, Or.inr ⟨_, hg, hu⟩⟩
              · exact absurd (by decide) h78
  | some q =>
    have bl := brk_ln 61 0 q eb
    have fs0 : S_fault tx ln 0 = nI q.1 := by unfold S_fault; rw [if_pos (by decide), eb]; rfl
    have fs1 : S_fault tx ln 1 = nI (q.2 - q.1) := by
      unfold S_fault
      rw [if_pos (by decide), eb]
      dsimp only
      rw [if_neg (by decide), pk_sub bl.2.1]
    have ep : S_play f p n tx ln = S_no (-2000000002) f p n := by unfold S_play; rw [eb]
    refine j_aload_n F.1 dL_plays_0 rfl ?_
    refine j_iconst F.1 (0) dL_plays_1 (by decide) ?_
    refine j_callV F (c_fault hn4 hu hl60 (x := 0)) co_X5_fault ml_L_47 im_X5_fault se_X5_fault in_X5 rc_X5_fault rfl (by decide) (by decide) ⟨by decide, rfl⟩ rfl rfl (Nat.le_of_ble_eq_true rfl) dL_plays_2 (fun r u hr => ?_)
    obtain ⟨rfl, hu⟩ := hr
    refine j_tl ?_
    refine j_top (fs0) ?_
    refine j_istore_n F.1 dL_plays_5 (by rw [hn]; decide) ?_
    refine j_aload_n F.1 dL_plays_6 rfl ?_
    refine j_iconst F.1 (1) dL_plays_7 (by decide) ?_
    refine j_callV F (c_fault hn4 hu hl60 (x := 1)) co_X5_fault ml_L_47 im_X5_fault se_X5_fault in_X5 rc_X5_fault rfl (by decide) (by decide) ⟨by decide, rfl⟩ rfl rfl (Nat.le_of_ble_eq_true rfl) dL_plays_8 (fun r u hr => ?_)
    obtain ⟨rfl, hu⟩ := hr
    refine j_tl ?_
    refine j_top (fs1) ?_
    refine j_istore_n F.1 dL_plays_11 (by rw [hn]; decide) ?_
    refine j_aload_n F.1 dL_plays_12 rfl ?_
    refine j_bipush F.1 (9) dL_plays_13 (by decide) ?_
    refine j_callV F (c_count hn4 hu) co_X5_count ml_L_13 im_X5_count se_X5_count in_X5 rc_X5_count rfl (by decide) (by decide) ⟨by decide, rfl⟩ rfl rfl (Nat.le_of_ble_eq_true rfl) dL_plays_15 (fun r u hr => ?_)
    obtain ⟨rfl, hu⟩ := hr
    refine j_tl ?_
    refine j_top (show S_count f n (nI ln) 9 = nI ln from rfl) ?_
    refine j_istore_n F.1 dL_plays_18 (by rw [hn]; decide) ?_
    refine j_aload_n F.1 dL_plays_19 rfl ?_
    refine j_iconst F.1 (0) dL_plays_20 (by decide) ?_
    refine j_callV F (c_count hn4 hu) co_X5_count ml_L_13 im_X5_count se_X5_count in_X5 rc_X5_count rfl (by decide) (by decide) ⟨by decide, rfl⟩ rfl rfl (Nat.le_of_ble_eq_true rfl) dL_plays_21 (fun r u hr => ?_)
    obtain ⟨rfl, hu⟩ := hr
    refine j_tl ?_
    refine j_top (show S_count f n (nI ln) 0 = f 0 from rfl) ?_
    refine j_istore F.1 dL_plays_24 (by rw [hn]; decide) ?_
    refine j_aload_n F.1 dL_plays_26 rfl ?_
    refine j_callV F (c_play hn4 hu hl60) co_X5_play ml_L_50 im_X5_play se_X5_play in_X5 rc_X5_play rfl (by decide) (by decide) ⟨by decide, rfl⟩ rfl rfl (Nat.le_of_ble_eq_true rfl) dL_plays_27 (fun r u hr => ?_)
    rw [ep] at hr
    obtain ⟨rfl, hu⟩ := hr
    refine j_tl ?_
    refine j_istore F.1 dL_plays_30 (by rw [hn]; decide) ?_
    refine j_iload_n F.1 dL_plays_32 rfl ?_
    refine j_ldc F cn_L_31 dL_plays_33 ?_
    refine j_icmp_ne F.1 74 dL_plays_35 (by decide) (fun h35 => ?_) (fun h35 => ?_)
    · refine j_iconst F.1 (0) dL_plays_74 (by decide) ?_
      refine j_istore F.1 dL_plays_75 (by rw [hn]; decide) ?_
      refine j_iload_n F.1 dL_plays_77 rfl ?_
      refine j_if_lt F.1 118 dL_plays_78 (by decide) (fun h78 => ?_) (fun h78 => ?_)
      · exact absurd h78 (nI_pos (by omega))
      · refine j_iload_n F.1 dL_plays_81 rfl ?_
        refine j_iload_n F.1 dL_plays_82 rfl ?_
        refine j_icmp_ge F.1 118 dL_plays_83 (by decide) (fun h83 => ?_) (fun h83 => ?_)
        · exact absurd h83 (nI_ge bl.1 (by omega))
        · refine j_iload_n F.1 dL_plays_86 rfl ?_
          refine j_if_lt F.1 118 dL_plays_87 (by decide) (fun h87 => ?_) (fun h87 => ?_)
          · exact absurd h87 (nI_pos (by omega))
          · refine j_iload_n F.1 dL_plays_90 rfl ?_
            refine j_iload_n F.1 dL_plays_91 rfl ?_
            refine j_iadd F.1 dL_plays_92 ?_
            refine j_top ((nI_add _ _).trans (congrArg nI (show q.1 + (q.2 - q.1) = q.2 by omega))) ?_
            refine j_iload_n F.1 dL_plays_93 rfl ?_
            refine j_icmp_gt F.1 118 dL_plays_94 (by decide) (fun h94 => ?_) (fun h94 => ?_)
            · exact absurd h94 (nI_nlt bl.2.2 (by omega))
            · refine j_iload F.1 dL_plays_97 rfl ?_
              refine j_ldc F cn_L_53 dL_plays_99 ?_
              refine j_icmp_ne F.1 118 dL_plays_101 (by decide) (fun h101 => ?_) (fun h101 => ?_)
              · exact absurd rfl h101
              · refine j_aload_n F.1 dL_plays_104 rfl ?_
                refine j_iconst F.1 (0) dL_plays_105 (by decide) ?_
                refine j_callV F (c_count hn4 hu) co_X5_count ml_L_13 im_X5_count se_X5_count in_X5 rc_X5_count rfl (by decide) (by decide) ⟨by decide, rfl⟩ rfl rfl (Nat.le_of_ble_eq_true rfl) dL_plays_106 (fun r u hr => ?_)
                obtain ⟨rfl, hu⟩ := hr
                refine j_tl ?_
                refine j_top (show S_count f n (nI ln) 0 = f 0 from rfl) ?_
                refine j_iload F.1 dL_plays_109 rfl ?_
                refine j_icmp_ne F.1 118 dL_plays_111 (by decide) (fun h111 => ?_) (fun h111 => ?_)
                · exact absurd rfl h111
                · refine j_iconst F.1 (1) dL_plays_114 (by decide) ?_
                  refine j_goto F.1 119 dL_plays_115 (by decide) ?_
                  refine j_istore F.1 dL_plays_119 (by rw [hn]; decide) ?_
                  refine j_iload F.1 dL_plays_121 rfl ?_
                  refine j_if_ne F.1 131 dL_plays_123 (by decide) (fun h123 => False.elim (by revert h123; decide)) (fun _ => ?_)
                  refine j_iload F.1 dL_plays_126 rfl ?_
                  refine j_if_eq F.1 145 dL_plays_128 (by decide) (fun h128 => False.elim (by revert h128; decide)) (fun _ => ?_)
                  refine j_aload_n F.1 dL_plays_131 rfl ?_
                  refine j_bipush F.1 (9) dL_plays_132 (by decide) ?_
                  refine j_callV F (c_count hn4 hu) co_X5_count ml_L_13 im_X5_count se_X5_count in_X5 rc_X5_count rfl (by decide) (by decide) ⟨by decide, rfl⟩ rfl rfl (Nat.le_of_ble_eq_true rfl) dL_plays_134 (fun r u hr => ?_)
                  obtain ⟨rfl, hu⟩ := hr
                  refine j_tl ?_
                  refine j_top (show S_count f n (nI ln) 9 = nI ln from rfl) ?_
                  refine j_iload_n F.1 dL_plays_137 rfl ?_
                  refine j_icmp_ne F.1 145 dL_plays_138 (by decide) (fun h138 => ?_) (fun h138 => ?_)
                  · exact absurd rfl h138
                  · refine j_iconst F.1 (1) dL_plays_141 (by decide) ?_
                    refine j_goto F.1 146 dL_plays_142 (by decide) ?_
                    exact j_zret F (Or.inr rfl) dL_plays_146 ⟨rfl, tx, ln, hl60, Or.inl hu⟩
    · exact absurd (Classical.not_not.mp (fun z => z h35)) (nI_m (by omega))
