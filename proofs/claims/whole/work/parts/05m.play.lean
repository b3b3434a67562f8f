/-! The reference: play. -/
theorem TM_rcr {v : rcM} {p : Nat} {o : Bool} {rd f : Nat → Int32} : rcr (TM v p o rd) 1 f = TM (rcr v 1 f) p o rd := by
  funext id
  unfold rcr TM
  by_cases h : id = 1
  · subst h; funext j; simp
  · funext j
    by_cases h0 : id = 0
    · subst h0; simp
    · by_cases h12 : id = 12
      · subst h12; simp
      · simp [h, h0, h12]
theorem TM_1 {v : rcM} {p : Nat} {o : Bool} {rd : Nat → Int32} : TM v p o rd 1 = v 1 := by funext j; rfl
def S_play (f p : Nat → Int32) (n : Nat) (tx : Nat → Int32) (ln : Nat) : rcS := match brk tx ln 61 0 with
  | some _ => S_no (-2000000002) f p n
  | none => S_act (A_play tx ln 61 f 0 0) f (A_play tx ln 61 f 0) p n
theorem pl_end {v w : rcM} {n ln p : Nat} {o : Bool} {rd : Nat → Int32} (hnone : brk (v 4) ln 61 0 = none) (hg : A_play (v 4) ln 61 (v 1) 0 = w 1) (hw : WF (v 1)) (hrev : (v 1 0).toInt + 61 < 2 ^ 31 - 1) (hb2 : ∀ k, k < 158 → w 2 k = v 1 k) (hbp : w 3 = v 3) (hb4 : w 4 = v 4) (hbl : w 0 5 = v 0 5) :
    KQ v (S_play (v 1) (v 3) n (v 4) ln) (some (.int (w 1 0))) (M_acted n (w 1 0) (TM w p o rd)) := by
  unfold S_play
  rw [hnone]
  dsimp only
  rw [hg]
  have e := acted_KM (v := v) (w := TM w p o rd) (x := w 1 0) (n := n) (f := v 1) (pos_gt (by rw [← hg]; exact (play_wf 61 0 (v 1) hw hrev).1.2.1)) (fun k hk => hb2 k hk) (by funext j; exact congrFun hbp j) (by funext j; exact congrFun hb4 j) hbl
  rw [TM_1] at e
  exact e
theorem pl_tm {u : rcM} : ∃ o rd, rcu (rcr (rcu u 0 16 (rcb (u 0 16))) 2 (cp 158 (rcu u 0 16 (rcb (u 0 16)) 1) (rcu u 0 16 (rcb (u 0 16)) 2))) 0 15 0 = TM (rcr u 2 (cp 158 (u 1) (u 2))) 0 o rd := by
  obtain ⟨o, ho⟩ := to_TM (v := rcr u 2 (cp 158 (u 1) (u 2)))
  refine ⟨o, rcr u 2 (cp 158 (u 1) (u 2)) 12, ?_⟩
  rw [← ho]
  rw [rcu_ne (a := 0) (b := 1) (by decide), rcu_ne (a := 0) (b := 2) (by decide), rcr_n (a := 2) (b := 0) (by decide)]
  congr 1
  funext id
  unfold rcr
  by_cases h : id = 2
  · subst h; rw [rcu_ne (by decide)]; rfl
  · by_cases h0 : id = 0
    · subst h0
      funext j
      unfold rcu
      by_cases hj : j = 16
      · subst hj; rfl
      · simp [hj]
    · rw [if_neg h, rcu_ne h0, rcu_ne h0]
      simp [h]
set_option maxHeartbeats 4000000 in
set_option maxRecDepth 100000 in
theorem k_play {Y : rcY} {la : Launch} {v : rcM} {n : Nat} (hn4 : n ≤ 4) (hn3 : v 0 3 = nI n) {ln : Nat} (hl : v 0 5 = nI ln) (hln : ln ≤ 60) (hw : WF (v 1)) (hrev : (v 1 0).toInt + 61 < 2 ^ 31 - 1) : rcT shM 13 Y la 5 (yX6_play, cX6_play, 2, (some .int)) [.ref (Y.2.1 0)] (v) (KQ v (S_play (v 1) (v 3) n (v 4) ln)) := by
  refine rcT.of (by decide +kernel) (Nat.le_of_ble_eq_true rfl) (fun X F hn => ?_)
  have loop : brk (v 4) ln 61 0 = none → ∀ (m : Nat) (w : rcM) (p : Nat) (o : Bool) (rd : Nat → Int32) (K : Option Value → rcM → Prop), 61 ≤ m + p → p ≤ 60 → w 0 5 = nI ln → w 0 3 = nI n → (∀ k, k < 158 → w 2 k = v 1 k) → w 3 = v 3 → w 4 = v 4 → w 0 5 = v 0 5 → brk (w 4) ln m p = none → A_play (w 4) ln m (w 1) p = A_play (v 4) ln 61 (v 1) 0 → rcJ shM 13 Y X (KQ v (S_play (v 1) (v 3) n (v 4) ln)) 26 [(1, .int (w 1 0)), (0, .ref (Y.2.1 0))] [] (TM w p o rd) := by
    intro hnone m
    induction m with
    | zero => intro w p o rd K h1 h2; omega
    | succ m ih =>
      intro w p o rd K h1 h2 hb5 hb3 hb2 hbp hb4 hbl hbk hpl
      refine j_aload_n F.1 dX6_play_26 rfl ?_
      refine j_geti F (k := 15) inX6 rfl (by decide) fl_X6_173 ⟨by decide, rfl⟩ rfl dX6_play_27 ?_
      refine j_top (y := nI p) rfl ?_
      refine j_aload_n F.1 dX6_play_30 rfl ?_
      refine j_geti F (k := 5) inX6 rfl (by decide) fl_X6_170 ⟨by decide, rfl⟩ rfl dX6_play_31 ?_
      refine j_top (y := nI ln) hb5 ?_
      refine j_icmp_ge F.1 92 dX6_play_34 (by decide) (fun h34 => ?_) (fun h34 => ?_)
      · have q : ¬ p < ln := fun z => nI_ge z (by omega) h34
        refine j_aload_n F.1 dX6_play_92 rfl ?_
        refine j_iload_n F.1 dX6_play_93 rfl ?_
        refine j_callVi F (k_acted hn4 (by unfold TM; exact hb3)) co_X6_acted ml_X6_83 im_X6_acted se_X6_acted in_X6 rc_X6_acted rfl (by decide) (by decide) ⟨by decide, rfl⟩ rfl rfl (Nat.le_of_ble_eq_true rfl) dX6_play_94 ?_
        exact j_iret F dX6_play_97 ((pl_end hnone (by rw [← hpl, play_s, if_neg q]) hw hrev hb2 hbp hb4 hbl))
      · have q : p < ln := by
          rcases Nat.lt_or_ge p ln with z | z
          · exact z
          · exact absurd (nI_le z (by omega)) h34
        refine j_aload_n F.1 dX6_play_37 rfl ?_
        refine j_callVi F (k_reads hb5 hln (by omega)) co_X6_reads ml_X6_198 im_X6_reads se_X6_reads in_X6 rc_X6_reads rfl (by decide) (by decide) ⟨by decide, rfl⟩ rfl rfl (Nat.le_of_ble_eq_true rfl) dX6_play_38 ?_
        have hr := RD_PR (tx := w 4) (ln := ln) (p := p) (rd := rd)
        have hgt := fun q d => PR_gt (tx := w 4) (ln := ln) (p := p) (q := q) (d := d)
        have hdv := fun q d => PR_DV (tx := w 4) (ln := ln) (p := p) (q := q) (d := d)
        cases ep : PR (w 4) ln p with
        | mk q2 od =>
          rw [ep] at hr hgt hdv
          cases od with
          | none => exact absurd (by rw [brk_s, if_pos q, ep] at hbk; exact hbk) (by intro z; cases z)
          | some d =>
            dsimp only at hr
            rw [hr.1]
            have hg2 := hgt q2 d rfl
            have hd2 := hdv q2 d rfl
            have hc := cN_ok hd2.1
            refine j_top (y := 1) rfl ?_
            refine j_if_eq F.1 87 dX6_play_41 (by decide) (fun h41 => False.elim (by revert h41; decide)) (fun _ => ?_)
            refine j_aload_n F.1 dX6_play_44 rfl ?_
            refine j_aload_n F.1 dX6_play_45 rfl ?_
            refine j_getr F (k := 17) inX6 rfl (by decide) fl_X6_43 ⟨by decide, rfl⟩ rfl dX6_play_46 ?_
            refine j_iconst F.1 (0) dX6_play_49 (by decide) ?_
            refine j_iald F ⟨by decide, rfl⟩ rfl (by decide) (by decide) dX6_play_50 ?_
            refine j_top (y := nI (cN d.1)) (by show (RD (w 4) ln p rd).2 0 = _; rw [hr.2.1]; exact hc.2) ?_
            refine j_aload_n F.1 dX6_play_51 rfl ?_
            refine j_getr F (k := 17) inX6 rfl (by decide) fl_X6_43 ⟨by decide, rfl⟩ rfl dX6_play_52 ?_
            refine j_iconst F.1 (1) dX6_play_55 (by decide) ?_
            refine j_iald F ⟨by decide, rfl⟩ rfl (by decide) (by decide) dX6_play_56 ?_
            refine j_aload_n F.1 dX6_play_57 rfl ?_
            refine j_getr F (k := 17) inX6 rfl (by decide) fl_X6_43 ⟨by decide, rfl⟩ rfl dX6_play_58 ?_
            refine j_iconst F.1 (2) dX6_play_61 (by decide) ?_
            refine j_iald F ⟨by decide, rfl⟩ rfl (by decide) (by decide) dX6_play_62 ?_
            refine j_aload_n F.1 dX6_play_63 rfl ?_
            refine j_getr F (k := 17) inX6 rfl (by decide) fl_X6_43 ⟨by decide, rfl⟩ rfl dX6_play_64 ?_
            refine j_iconst F.1 (3) dX6_play_67 (by decide) ?_
            refine j_iald F ⟨by decide, rfl⟩ rfl (by decide) (by decide) dX6_play_68 ?_
            refine j_aload_n F.1 dX6_play_69 rfl ?_
            refine j_getr F (k := 17) inX6 rfl (by decide) fl_X6_43 ⟨by decide, rfl⟩ rfl dX6_play_70 ?_
            refine j_iconst F.1 (4) dX6_play_73 (by decide) ?_
            refine j_iald F ⟨by decide, rfl⟩ rfl (by decide) (by decide) dX6_play_74 ?_
            refine j_aload_n F.1 dX6_play_75 rfl ?_
            refine j_getr F (k := 17) inX6 rfl (by decide) fl_X6_43 ⟨by decide, rfl⟩ rfl dX6_play_76 ?_
            refine j_iconst F.1 (5) dX6_play_79 (by decide) ?_
            refine j_iald F ⟨by decide, rfl⟩ rfl (by decide) (by decide) dX6_play_80 ?_
            refine j_callVi F (k_defines hc.1) co_X6_defines ml_X6_79 im_X6_defines se_X6_defines in_X6 rc_X6_defines rfl (by decide) (by decide) ⟨by decide, rfl⟩ rfl rfl (Nat.le_of_ble_eq_true rfl) dX6_play_81 ?_
            have tk : ∀ k, TM w (q2, true).fst (q2, true).snd (RD (w 4) ln p rd).snd 12 k = (RD (w 4) ln p rd).2 k := fun _ => rfl
            rw [TM_rcr, TM_1, tk 1, tk 2, tk 3, tk 4, tk 5, hr.2.2.1, hr.2.2.2.1, hr.2.2.2.2.1, hr.2.2.2.2.2.1, hr.2.2.2.2.2.2]
            refine j_goto F.1 88 dX6_play_84 (by decide) ?_
            refine j_istore_n F.1 dX6_play_88 (by rw [hn]; decide) ?_
            refine j_goto F.1 26 dX6_play_89 (by decide) ?_
            refine j_loc [(1, .int (rcr w 1 (A_def (w 1) (cN d.1) d.2.1 d.2.2.1 d.2.2.2.1 d.2.2.2.2.1 d.2.2.2.2.2) 1 0)), (0, .ref (Y.2.1 0))] (by rw [rcr_s]; rfl) ?_
            refine ih (rcr w 1 (A_def (w 1) (cN d.1) d.2.1 d.2.2.1 d.2.2.2.1 d.2.2.2.2.1 d.2.2.2.2.2)) q2 true _ K (by omega) (by omega) ?_ ?_ ?_ ?_ ?_ ?_ ?_ ?_
            · rw [rcr_n (by decide)]; exact hb5
            · rw [rcr_n (by decide)]; exact hb3
            · rw [rcr_n (by decide)]; exact hb2
            · rw [rcr_n (by decide)]; exact hbp
            · rw [rcr_n (by decide)]; exact hb4
            · rw [rcr_n (by decide)]; exact hbl
            · rw [rcr_n (by decide)]; rw [brk_s, if_pos q, ep] at hbk; exact hbk
            · rw [rcr_s]; rw [play_s, if_pos q, ep] at hpl; exact hpl
  refine j_aload_n F.1 dX6_play_0 rfl ?_
  refine j_callV F (k_brokenAt hl hln) co_X6_brokenAt ml_X6_202 im_X6_brokenAt se_X6_brokenAt in_X6 rc_X6_brokenAt rfl (by decide) (by decide) ⟨by decide, rfl⟩ rfl rfl (Nat.le_of_ble_eq_true rfl) dX6_play_1 (fun r u hr => ?_)
  obtain ⟨fr, hr⟩ := hr
  cases eb : brk (v 4) ln 61 0 with
  | none =>
    rw [eb] at hr
    subst hr
    refine j_tl ?_
    have u4 : u 4 = v 4 := fr.1 4 (by decide) (by decide)
    have u1 : u 1 = v 1 := fr.1 1 (by decide) (by decide)
    have u3 : u 3 = v 3 := fr.1 3 (by decide) (by decide)
    have un : u 0 3 = nI n := by rw [fr.2 3 (by decide) (by decide)]; exact hn3
    have u5 : u 0 5 = v 0 5 := fr.2 5 (by decide) (by decide)
    refine j_form ?_
    refine j_if_lt F.1 10 dX6_play_4 (by decide) (fun _ => ?_) (fun h4 => False.elim (by revert h4; decide))
    refine j_aload_n F.1 dX6_play_10 rfl ?_
    refine j_callVv F (k_begins) co_X6_begins ml_X6_76 im_X6_begins se_X6_begins in_X6 rc_X6_begins rfl (by decide) (by decide) ⟨by decide, rfl⟩ rfl rfl (Nat.le_of_ble_eq_true rfl) dX6_play_11 ?_
    refine j_aload_n F.1 dX6_play_14 rfl ?_
    refine j_iconst F.1 (0) dX6_play_15 (by decide) ?_
    refine j_puti F (k := 15) inX6 tyX6_ok nmX6 rfl (by decide) fl_X6_173 rfl rfl ⟨by decide, rfl⟩ rfl dX6_play_16 ?_
    refine j_aload_n F.1 dX6_play_19 rfl ?_
    refine j_getr F (k := 0) inX6 rfl (by decide) fl_X6_7 ⟨by decide, rfl⟩ rfl dX6_play_20 ?_
    refine j_iconst F.1 (0) dX6_play_23 (by decide) ?_
    refine j_iald F ⟨by decide, rfl⟩ rfl (by decide) (by decide) dX6_play_24 ?_
    refine j_istore_n F.1 dX6_play_25 (by rw [hn]; decide) ?_
    have hx : ∃ o rd, rcu (rcr (rcu u 0 16 (rcb (u 0 16))) 2 (cp 158 (rcu u 0 16 (rcb (u 0 16)) 1) (rcu u 0 16 (rcb (u 0 16)) 2))) 0 15 0 = TM (rcr u 2 (cp 158 (u 1) (u 2))) 0 o rd := pl_tm
    obtain ⟨o, rd, hx⟩ := hx
    refine j_loc [(1, .int (rcr u 2 (cp 158 (u 1) (u 2)) 1 0)), (0, .ref (Y.2.1 0))] rfl ?_
    rw [hx]
    refine loop eb 61 (rcr u 2 (cp 158 (u 1) (u 2))) 0 o rd (fun _ _ => True) (by decide) (by decide) ?_ ?_ ?_ ?_ ?_ ?_ ?_ ?_
    · rw [rcr_n (by decide), u5]; exact hl
    · rw [rcr_n (by decide)]; exact un
    · intro k hk; rw [rcr_s, cp_lt hk, u1]
    · rw [rcr_n (by decide)]; exact u3
    · rw [rcr_n (by decide)]; exact u4
    · rw [rcr_n (by decide)]; exact u5
    · rw [rcr_n (by decide), u4]; exact eb
    · rw [rcr_n (by decide), rcr_n (by decide), u4, u1]
  | some q =>
    rw [eb] at hr
    obtain ⟨rfl, h15, hq⟩ := hr
    refine j_tl ?_
    refine j_if_lt F.1 10 dX6_play_4 (by decide) (fun h4 => ?_) (fun h4 => ?_)
    · exact absurd h4 (nI_pos (by omega))
    · refine j_ldc F cn_X6_146 dX6_play_7 ?_
      exact j_iret F dX6_play_9 ((by unfold S_play; rw [eb]; exact fr.KQ hn3))
