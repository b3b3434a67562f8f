/-! The class: a look. -/
theorem lk_val {v u : rcM} {k n c : Nat} {O : List Nat} {f : Nat → Int32} (hc : c < 10) (h0 : f (ix c 0) = 0) (hR : Rep u k f) (hB : Bg u k O) (ho : Out v u k) (hS : u (sid k) 9 = v (sid k) 9 ||| bitI (nI c)) : KL2 v k (n + 1) O f c (some (.int (u (cid k c) 1))) u := by
  unfold KL2
  rw [A_look_s, if_pos h0]
  refine ⟨by rw [hR.chg hc (Or.inl h0)], hR, hB, ho, fun _ => ?_⟩
  rw [A_bits_s, if_pos (Or.inl h0), Int32.or_zero, hS]
theorem lk_ring {v u : rcM} {k n c : Nat} {O : List Nat} {f : Nat → Int32} (h0 : ¬ f (ix c 0) = 0) (hP : Pre O f) (hO : c ∈ O) (ho : Out v u k) : KL2 v k (n + 1) O f c (some (.int (-1))) u := by
  unfold KL2
  rw [A_look_s, if_neg h0, if_neg (fun z => hP.2 c hO (Or.inr z)), if_pos hO]
  exact ⟨rfl, ho⟩
theorem lk_some {v u : rcM} {k n c : Nat} {O : List Nat} {f g : Nat → Int32} (hc : c < 10) (hP : Pre O f) (e : A_look (n + 1) O f c = some g) (hR : Rep u k g) (hB : Bg u k O) (ho : Out v u k) (hS : AF f → u (sid k) 9 = v (sid k) 9 ||| A_bits (n + 1) O f c) : KL2 v k (n + 1) O f c (some (.int (u (cid k c) 1))) u := by
  obtain ⟨g1, fr⟩ := A_look_good (n + 1) _ _ _ _ hc hP e
  unfold KL2
  rw [e]
  exact ⟨by rw [hR.chg hc fr], hR, hB, ho, hS⟩
theorem lk_none {v u : rcM} {k n c : Nat} {O : List Nat} {f : Nat → Int32} (e : A_look (n + 1) O f c = none) (ho : Out v u k) : KL2 v k (n + 1) O f c (some (.int (-1))) u := by
  unfold KL2
  rw [e]
  exact ⟨rfl, ho⟩
theorem full_O {O : List Nat} {c : Nat} (h : OkO O) (hc : c < 10) (hl : 10 ≤ O.length) : c ∈ O := by
  by_cases q : c ∈ O
  · exact q
  · have := (h.cons hc q).len
    simp at this
    omega
set_option maxHeartbeats 4000000 in
set_option maxRecDepth 100000 in
theorem c_look {Y : rcY} {la : Launch} {v : rcM} {k n c : Nat} {O : List Nat} {f : Nat → Int32} (hk : k < 6) (ih : LKC Y k n) (hc : c < 10) (hR : Rep v k f) (hB : Bg v k O) (hP : Pre O f) (hO : OkO O) (hn11 : O.length + (n + 1) = 11) : rcT shC 139 Y la (4 * (n + 1) + 1) (yX3_look, cX3_look, 5, (some .int)) [.ref (Y.2.1 (sid k)), .int (nI c), .int (nI O.length)] (v) (KL2 v k (n + 1) O f c) := by
  refine rcT.of (by decide +kernel) (Nat.le_of_ble_eq_true rfl) (fun X F hn => ?_)
  have main : ∀ w : rcM, Rep w k f → Bg w k O → Out v w k → w (sid k) 9 = v (sid k) 9 ||| bitI (nI c) → rcJ shC 139 Y X (KL2 v k (n + 1) O f c) 19 [(3, .ref (Y.2.1 (cid k c))), (0, .ref (Y.2.1 (sid k))), (1, .int (nI c)), (2, .int (nI O.length))] [] w := by
    intro w hRw hBw how hSw
    by_cases h0 : f (ix c 0) = 0
    · refine j_aload_n F.1 dX3_look_19 rfl ?_
      refine j_getr F (k := 0) inX0 rfl (by decide) fl_X3_50 (sh_cell hk hc) rfl dX3_look_20 ?_
      refine j_geti F (k := 0) inX1 rfl (by decide) fl_X3_88 (sh_def hk hc) rfl dX3_look_23 ?_
      refine j_iconst F.1 (-1) dX3_look_26 (by decide) ?_
      refine j_icmp_ne F.1 35 dX3_look_27 (by decide) (fun h27 => ?_) (fun h27 => ?_)
      · exact absurd ((hRw.kind hc).mpr h0) h27
      · refine j_aload_n F.1 dX3_look_30 rfl ?_
        refine j_geti F (k := 1) inX0 rfl (by decide) fl_X3_63 (sh_cell hk hc) rfl dX3_look_31 ?_
        exact j_iret F dX3_look_34 ((lk_val hc h0 hRw hBw how hSw))
    have stale : ¬ (f (ix c 6) = 1 ∧ f (ix c 9) = f 0) → c ∉ O → rcJ shC 139 Y X (KL2 v k (n + 1) O f c) 81 [(3, .ref (Y.2.1 (cid k c))), (0, .ref (Y.2.1 (sid k))), (1, .int (nI c)), (2, .int (nI O.length))] [] w := by
      intro hst hcO
      refine j_aload_n F.1 dX3_look_81 rfl ?_
      refine j_iconst F.1 (1) dX3_look_82 (by decide) ?_
      refine j_putz F (k := 7) inX0 tyX0_ok nmX0 rfl (by decide) fl_X3_91 rfl rfl (sh_cell hk hc) rfl (by first | exact Or.inl rfl | exact Or.inr rfl | exact rcb_01 _) dX3_look_83 ?_
      refine j_aload_n F.1 dX3_look_86 rfl ?_
      refine j_aload_n F.1 dX3_look_87 rfl ?_
      refine j_iload_n F.1 dX3_look_88 rfl ?_
      refine j_iconst F.1 (1) dX3_look_89 (by decide) ?_
      refine j_iadd F.1 dX3_look_90 ?_
      refine j_top (y := nI (O.length + 1)) (nI_1 _) ?_
      have hO2 : OkO (c :: O) := hO.cons hc hcO
      have hP2 : Pre (c :: O) f := ⟨hP.1, fun o ho => by
        rcases List.mem_cons.mp ho with rfl | ho
        · exact fun q => q.elim h0 hst
        · exact hP.2 o ho⟩
      refine j_callV F (c_bringUp hk ih hc (hRw.c7 (x := 1) hc) hBw.opn hP2 hO2 (by simp; omega) h0 hst) co_X3_bringUpToDate ml_X3_97 im_X3_bringUpToDate se_X3_bringUpToDate in_X3 rc_X3_bringUpToDate rfl (by omega) (by decide) (sh_st hk) rfl rfl (Nat.le_of_ble_eq_true rfl) dX3_look_91 (fun r u hr => ?_)
      unfold KW at hr
      cases eR : (if f (ix c 6) = 1 then A_chk n O f c else A_work n O f c) with
      | none =>
        rw [eR] at hr
        obtain ⟨rfl, hou⟩ := hr
        refine j_tl ?_
        refine j_istore F.1 dX3_look_94 (by rw [hn]; decide) ?_
        refine j_aload_n F.1 dX3_look_96 rfl ?_
        refine j_iconst F.1 (0) dX3_look_97 (by decide) ?_
        refine j_putz F (k := 7) inX0 tyX0_ok nmX0 rfl (by decide) fl_X3_91 rfl rfl (sh_cell hk hc) rfl (by first | exact Or.inl rfl | exact Or.inr rfl | exact rcb_01 _) dX3_look_98 ?_
        refine j_iload F.1 dX3_look_101 rfl ?_
        refine j_if_ne F.1 108 dX3_look_103 (by decide) (fun h103 => False.elim (by revert h103; decide)) (fun _ => ?_)
        refine j_iconst F.1 (-1) dX3_look_106 (by decide) ?_
        exact j_iret F dX3_look_107 ((lk_none (by rw [A_look_s, if_neg h0, if_neg hst, if_neg hcO]; exact eR) ((how.tr (Out.rf.u (blk_c hc))).tr (hou.u (blk_c hc)))))
      | some g =>
        rw [eR] at hr
        obtain ⟨rfl, ⟨g0, eg0, Ru⟩, Bu, Ou, Su⟩ := hr
        refine j_tl ?_
        refine j_istore F.1 dX3_look_94 (by rw [hn]; decide) ?_
        refine j_aload_n F.1 dX3_look_96 rfl ?_
        refine j_iconst F.1 (0) dX3_look_97 (by decide) ?_
        refine j_putz F (k := 7) inX0 tyX0_ok nmX0 rfl (by decide) fl_X3_91 rfl rfl (sh_cell hk hc) rfl (by first | exact Or.inl rfl | exact Or.inr rfl | exact rcb_01 _) dX3_look_98 ?_
        refine j_iload F.1 dX3_look_101 rfl ?_
        refine j_if_ne F.1 108 dX3_look_103 (by decide) (fun _ => ?_) (fun h103 => False.elim (by revert h103; decide))
        have qu := usesM_rep (w := rcu u (cid k c) 7 0) (Rep.c7 Ru hc) hc
        refine j_aload_n F.1 dX3_look_108 rfl ?_
        refine j_dup F.1 dX3_look_109 rfl ?_
        refine j_geti F (k := 8) inX3 rfl (by decide) fl_X3_44 (sh_st hk) rfl dX3_look_110 ?_
        refine j_iconst F.1 (1) dX3_look_113 (by decide) ?_
        refine j_iadd F.1 dX3_look_114 ?_
        refine j_puti F (k := 8) inX3 tyX3_ok nmX3 rfl (by decide) fl_X3_44 rfl rfl (sh_st hk) rfl dX3_look_115 ?_
        refine j_aload_n F.1 dX3_look_118 rfl ?_
        refine j_aload_n F.1 dX3_look_119 rfl ?_
        refine j_geti F (k := 8) inX3 rfl (by decide) fl_X3_44 (sh_st hk) rfl dX3_look_120 ?_
        refine j_top (y := (rcu u (cid k c) 7 0) (sid k) 8 + 1) (by rw [rcu_self]) ?_
        refine j_puti F (k := 6) inX0 tyX0_ok nmX0 rfl (by decide) fl_X3_70 rfl rfl (sh_cell hk hc) rfl dX3_look_123 ?_
        refine j_aload_n F.1 dX3_look_126 rfl ?_
        refine j_geti F (k := 1) inX0 rfl (by decide) fl_X3_63 (sh_cell hk hc) rfl dX3_look_127 ?_
        exact j_iret F dX3_look_130 ((lk_some (u := usesM (rcu u (cid k c) 7 0) k c) hc hP (by rw [A_look_s, if_neg h0, if_neg hst, if_neg hcO, eg0]; exact eR) qu.1 (qu.2.bg (Bu.cls hcO)) (((how.tr (Out.rf.u (blk_c hc))).tr (Ou.u (blk_c hc))).tr qu.2.1) (fun z => by rw [qu.2.2.2, rcu_ne ne_sc, Su z, rcu_ne ne_sc, hSw, A_bits_s, if_neg (fun q => q.elim h0 hst), or_a])))
    refine j_aload_n F.1 dX3_look_19 rfl ?_
    refine j_getr F (k := 0) inX0 rfl (by decide) fl_X3_50 (sh_cell hk hc) rfl dX3_look_20 ?_
    refine j_geti F (k := 0) inX1 rfl (by decide) fl_X3_88 (sh_def hk hc) rfl dX3_look_23 ?_
    refine j_iconst F.1 (-1) dX3_look_26 (by decide) ?_
    refine j_icmp_ne F.1 35 dX3_look_27 (by decide) (fun h27 => ?_) (fun h27 => ?_)
    · refine j_aload_n F.1 dX3_look_35 rfl ?_
      refine j_getz F (k := 7) inX0 rfl (by decide) fl_X3_91 (sh_cell hk hc) rfl dX3_look_36 ?_
      refine j_top (y := if c ∈ O then 1 else 0) (hBw c hc) ?_
      refine j_if_ne F.1 48 dX3_look_39 (by decide) (fun h39 => ?_) (fun h39 => ?_)
      · have hcO : c ∈ O := Classical.not_not.mp (fun z => h39 (if_neg z))
        refine j_iconst F.1 (-1) dX3_look_48 (by decide) ?_
        exact j_iret F dX3_look_49 ((lk_ring h0 hP hcO how))
      · have hcO : c ∉ O := fun z => by rw [if_pos z] at h39; exact absurd h39 (by decide)
        refine j_iload_n F.1 dX3_look_42 rfl ?_
        refine j_bipush F.1 (10) dX3_look_43 (by decide) ?_
        refine j_icmp_lt F.1 50 dX3_look_45 (by decide) (fun h45 => ?_) (fun h45 => ?_)
        · refine j_aload_n F.1 dX3_look_50 rfl ?_
          refine j_getz F (k := 2) inX0 rfl (by decide) fl_X3_66 (sh_cell hk hc) rfl dX3_look_51 ?_
          refine j_if_eq F.1 81 dX3_look_54 (by decide) (fun h54 => ?_) (fun h54 => ?_)
          · have hst : ¬ (f (ix c 6) = 1 ∧ f (ix c 9) = f 0) := fun z => absurd ((hRw.has0 hc h54).symm.trans z.1) (by decide)
            exact stale hst hcO
          · have h6 : f (ix c 6) = 1 := hRw.has1 hc h54
            have hs4 := ((hRw.1 c hc).2.2.2 h6).2.2.1
            refine j_aload_n F.1 dX3_look_57 rfl ?_
            refine j_geti F (k := 4) inX0 rfl (by decide) fl_X3_94 (sh_cell hk hc) rfl dX3_look_58 ?_
            refine j_aload_n F.1 dX3_look_61 rfl ?_
            refine j_geti F (k := 1) inX3 rfl (by decide) fl_X3_26 (sh_st hk) rfl dX3_look_62 ?_
            refine j_icmp_ne F.1 81 dX3_look_65 (by decide) (fun h65 => ?_) (fun h65 => ?_)
            · have hst : ¬ (f (ix c 6) = 1 ∧ f (ix c 9) = f 0) := fun z => h65 (by rw [hs4, hRw.2.1]; exact z.2)
              exact stale hst hcO
            · have h9 : f (ix c 9) = f 0 := by rw [← hs4, ← hRw.2.1]; first | exact h65 | exact Classical.not_not.mp h65
              refine j_aload_n F.1 dX3_look_68 rfl ?_
              refine j_dup F.1 dX3_look_69 rfl ?_
              refine j_geti F (k := 5) inX3 rfl (by decide) fl_X3_35 (sh_st hk) rfl dX3_look_70 ?_
              refine j_iconst F.1 (1) dX3_look_73 (by decide) ?_
              refine j_iadd F.1 dX3_look_74 ?_
              refine j_puti F (k := 5) inX3 tyX3_ok nmX3 rfl (by decide) fl_X3_35 rfl rfl (sh_st hk) rfl dX3_look_75 ?_
              refine j_goto F.1 108 dX3_look_78 (by decide) ?_
              have qt := takeM_rep hRw
              have qu := usesM_rep (w := rcu w (sid k) 5 (w (sid k) 5 + 1)) qt.1 hc
              refine j_aload_n F.1 dX3_look_108 rfl ?_
              refine j_dup F.1 dX3_look_109 rfl ?_
              refine j_geti F (k := 8) inX3 rfl (by decide) fl_X3_44 (sh_st hk) rfl dX3_look_110 ?_
              refine j_iconst F.1 (1) dX3_look_113 (by decide) ?_
              refine j_iadd F.1 dX3_look_114 ?_
              refine j_puti F (k := 8) inX3 tyX3_ok nmX3 rfl (by decide) fl_X3_44 rfl rfl (sh_st hk) rfl dX3_look_115 ?_
              refine j_aload_n F.1 dX3_look_118 rfl ?_
              refine j_aload_n F.1 dX3_look_119 rfl ?_
              refine j_geti F (k := 8) inX3 rfl (by decide) fl_X3_44 (sh_st hk) rfl dX3_look_120 ?_
              refine j_top (y := (rcu w (sid k) 5 (w (sid k) 5 + 1)) (sid k) 8 + 1) (by rw [rcu_self]) ?_
              refine j_puti F (k := 6) inX0 tyX0_ok nmX0 rfl (by decide) fl_X3_70 rfl rfl (sh_cell hk hc) rfl dX3_look_123 ?_
              refine j_aload_n F.1 dX3_look_126 rfl ?_
              refine j_geti F (k := 1) inX0 rfl (by decide) fl_X3_63 (sh_cell hk hc) rfl dX3_look_127 ?_
              exact j_iret F dX3_look_130 ((lk_some (u := usesM (rcu w (sid k) 5 (w (sid k) 5 + 1)) k c) hc hP (by rw [A_look_s, if_neg h0, if_pos ⟨h6, h9⟩, T0_take]) qu.1 (qu.2.bg (qt.2.bg hBw)) ((how.tr qt.2.1).tr qu.2.1) (fun _ => by rw [qu.2.2.2, qt.2.2.2, hSw, A_bits_s, if_pos (Or.inr ⟨h6, h9⟩), Int32.or_zero])))
        · have hcO : c ∈ O := full_O hO hc ((nI_leI (a := 10) (b := O.length) (by omega) (by have := hO.len; omega)).mp (by first | exact h45 | exact Int32.not_lt.mp h45))
          refine j_iconst F.1 (-1) dX3_look_48 (by decide) ?_
          exact j_iret F dX3_look_49 ((lk_ring h0 hP hcO how))
    · exact absurd ((hRw.kind hc).mp (by first | exact h27 | exact Classical.not_not.mp h27)) h0
  refine j_aload_n F.1 dX3_look_0 rfl ?_
  refine j_getr F (k := 0) inX3 rfl (by decide) fl_X3_11 (sh_st hk) rfl dX3_look_1 ?_
  refine j_iload_n F.1 dX3_look_4 rfl ?_
  refine j_aald3 F (sh_arr hk) rfl hc (by decide) dX3_look_5 ?_
  refine j_astore_n F.1 dX3_look_6 (by rw [hn]; decide) ?_
  refine j_aload_n F.1 dX3_look_7 rfl ?_
  refine j_dup F.1 dX3_look_8 rfl ?_
  refine j_geti F (k := 9) inX3 rfl (by decide) fl_X3_47 (sh_st hk) rfl dX3_look_9 ?_
  refine j_iconst F.1 (1) dX3_look_12 (by decide) ?_
  refine j_iload_n F.1 dX3_look_13 rfl ?_
  refine j_ishl F.1 dX3_look_14 ?_
  refine j_ior F.1 dX3_look_15 ?_
  refine j_puti F (k := 9) inX3 tyX3_ok nmX3 rfl (by decide) fl_X3_47 rfl rfl (sh_st hk) rfl dX3_look_16 ?_
  refine j_loc [(3, .ref (Y.2.1 (cid k c))), (0, .ref (Y.2.1 (sid k))), (1, .int (nI c)), (2, .int (nI O.length))] rfl ?_
  exact main (rcu v (sid k) 9 (v (sid k) 9 ||| bitI (nI c))) hR.s9 hB.s9 (Out.rf.u blk_s) rcu_self
