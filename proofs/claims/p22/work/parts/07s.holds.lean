/-! The law: what holds. -/
theorem rv_0 {f : Nat → Int32} {i : Nat} {w : Int32} (hi : i < 10) (hw : 0 ≤ w ∧ w ≤ 6) (h6 : f (ix i 6) = 0) : Rv f (nI i) w = -2000000004 := by
  unfold Rv
  rw [if_pos ⟨nI_in9 hi, hw⟩, cN_nI hi, if_pos (Or.inl h6)]
theorem rv_s {f : Nat → Int32} {i : Nat} {w : Int32} (hi : i < 10) (hw : 0 ≤ w ∧ w ≤ 6) (h6 : f (ix i 6) = 1) (hn : ¬ ((4 ≤ w ∧ w ≤ 5) ∧ f (ix i 10) ≤ w - 4)) (h : ¬ w = 6) : Rv f (nI i) w = f (ix i (7 + cN w)) := by
  unfold Rv
  rw [if_pos ⟨nI_in9 hi, hw⟩, cN_nI hi, if_neg (fun z => z.elim (fun z => by rw [h6] at z; exact absurd z (by decide)) hn), if_neg h]
theorem rv_6 {f : Nat → Int32} {i : Nat} (hi : i < 10) (h6 : f (ix i 6) = 1) : Rv f (nI i) 6 = plc f i 10 := by
  unfold Rv
  rw [if_pos ⟨nI_in9 hi, by decide⟩, cN_nI hi, if_neg (fun z => z.elim (fun z => by rw [h6] at z; exact absurd z (by decide)) (fun z => absurd z.1.2 (by decide))), if_pos rfl]
theorem rv_a {f : Nat → Int32} {i : Nat} (hi : i < 10) (h6 : f (ix i 6) = 1) : Rv f (nI i) 0 = f (ix i 7) ∧ Rv f (nI i) 1 = f (ix i 8) ∧ Rv f (nI i) 2 = f (ix i 9) ∧ Rv f (nI i) 3 = f (ix i 10) :=
  ⟨rv_s hi (by decide) h6 (fun z => absurd z.1.1 (by decide)) (by decide), rv_s hi (by decide) h6 (fun z => absurd z.1.1 (by decide)) (by decide), rv_s hi (by decide) h6 (fun z => absurd z.1.1 (by decide)) (by decide), rv_s hi (by decide) h6 (fun z => absurd z.1.1 (by decide)) (by decide)⟩
theorem many_12 {f : Nat → Int32} {i : Nat} (w : WF f) (hi : i < 10) (h6 : f (ix i 6) = 1) : ¬ f (ix i 10) < 1 ∧ ¬ 2 < f (ix i 10) ∧ ¬ f (ix i 10) ≤ 0 := by
  rcases ((w.1 i hi).2.2.2.2 h6).2.1 with q | q
  · rw [q]; decide
  · rw [q.1]; decide
theorem rv_4 {f : Nat → Int32} {i : Nat} (w : WF f) (hi : i < 10) (h6 : f (ix i 6) = 1) : Rv f (nI i) 4 = f (ix i 2) := by
  rw [rv_s hi (by decide) h6 (fun z => (many_12 w hi h6).2.2 z.2) (by decide)]
  exact ((w.1 i hi).2.2.2.2 h6).1
theorem ceo_0 {f : Nat → Int32} {i : Nat} (hi : i < 10) : S_cellOf f (nI i) 0 = f (ix i 0) := M_cellOf_t (v := fun _ => f) (j := 0) hi (by decide) (Or.inl rfl)
theorem ceo_2 {f : Nat → Int32} {i : Nat} (hi : i < 10) (h0 : ¬ f (ix i 0) = 0) : S_cellOf f (nI i) 2 = f (ix i 2) :=
  M_cellOf_t (v := fun _ => f) (j := 2) hi (by decide) (Or.inr ⟨⟨fun z => absurd z (by decide), fun z => absurd z h0⟩, Or.inl (by decide)⟩)
theorem form_05 {f : Nat → Int32} {i : Nat} (w : WF f) (hi : i < 10) : ¬ f (ix i 0) < 0 ∧ ¬ 5 < f (ix i 0) := by
  obtain ⟨fo, h, e⟩ := (w.1 i hi).1
  rw [e]
  exact ⟨nI_pos (by omega), nI_nlt (a := 5) h (by decide)⟩
theorem one_1 {f : Nat → Int32} {c : Nat} : one f c 1 = b2 (f (ix c 6) = 1) := by
  unfold one
  rw [if_neg (by decide), if_pos rfl]
theorem one_2 {f : Nat → Int32} {c : Nat} : one f c 2 = b2 (f (ix c 6) = 1 ∧ f (ix c 9) = f 0) := by
  unfold one
  rw [if_neg (by decide), if_neg (by decide), if_pos rfl]
theorem fresh_i {f : Nat → Int32} {i : Nat} (hi : i < 10) : S_fresh f (nI i) = toldF f i := by
  unfold S_fresh
  rw [if_pos (nI_in9 hi), cN_nI hi]
theorem now_told {D : Dh} {f : Nat → Int32} {c : Nat} (a : Sv D f) (w : WF f) (hc : c < 10) (h6 : f (ix c 6) = 1) (h9 : f (ix c 9) = f 0) : one f c 3 = 0 ∧ (toldF f c = -2000000003 → f (ix c 7) = 2000000000) ∧ (¬ toldF f c = -2000000003 → f (ix c 7) = toldF f c) := by
  obtain ⟨S, e⟩ := now_EV a w hc h6 h9
  refine ⟨by rw [one_3, e], ?_⟩
  rw [told_s e]
  dsimp only
  by_cases h : f (ix c 7) = 2000000000
  · rw [if_pos h]
    exact ⟨fun _ => h, fun z => absurd rfl z⟩
  · rw [if_neg h]
    exact ⟨fun z => absurd z (ok_n (EV_ok w hc e)).2, fun _ => rfl⟩
theorem same_le {b : Int} {f : Nat → Int32} (a : Ct b f) : ¬ f 1 < f 6 := fun z => by
  have := Int32.lt_iff_toInt_lt.mp z
  have := a.2.2.2.1
  omega
theorem bound_10 {f : Nat → Int32} (w : WF f) (h : (f 5).toInt ≤ 10) : ¬ f 5 < 0 ∧ ¬ 10 < f 5 :=
  ⟨fun z => by have := Int32.lt_iff_toInt_lt.mp z; rw [Int32.toInt_zero] at this; have := w.2.2; omega, fun z => by
    have q := Int32.lt_iff_toInt_lt.mp z
    have e : (10 : Int32).toInt = 10 := by decide
    rw [e] at q
    omega⟩
set_option maxHeartbeats 8000000 in
set_option maxRecDepth 100000 in
theorem c_holds {Y : rcY} {la : Launch} {v : rcM} {f p tx : Nat → Int32} {n ln : Nat} {B : Int} (hn4 : n ≤ 4) (hC : CR v f p n tx ln) (hI0 : INV f B) : rcT shC 139 Y la 50 (yL_holds, cL_holds, 9, (some .boolean)) [.ref (Y.2.1 0)] (v) (KX 1 f p n tx ln) := by
  refine rcT.of (by decide +kernel) (Nat.le_of_ble_eq_true rfl) (fun X F hn => ?_)
  obtain ⟨hw, ⟨D, hS⟩, hc, hb, -⟩ := hI0
  have loop : ∀ r t : Nat, t ≤ 10 → 10 < t + r → ∀ u, CR u f p n tx ln → rcJ shC 139 Y X (KX 1 f p n tx ln) 20 [(5, .int (nI (t))), (4, .int (nI (PL f (t)))), (3, .int (nI (cntH f (t)))), (2, .int (nI (WN f 3 10))), (1, .int (nI (WN f 1 10))), (0, .ref (Y.2.1 0))] [] u := by
    intro r
    induction r with
    | zero => intro t ht hr; omega
    | succ r ih =>
      intro t ht hr u hu
      refine j_iload F.1 dL_holds_20 rfl ?_
      refine j_bipush F.1 (10) dL_holds_22 (by decide) ?_
      refine j_icmp_ge F.1 306 dL_holds_24 (by decide) (fun h24 => ?_) (fun h24 => ?_)
      · have q24 : 10 ≤ t := (nI_leI (a := 10) (b := t) (by omega) (by omega)).mp h24
        have tN : t = 10 := by omega
        subst tN
        refine j_iload_n F.1 dL_holds_306 rfl ?_
        refine j_aload_n F.1 dL_holds_307 rfl ?_
        refine j_iconst F.1 (1) dL_holds_308 (by decide) ?_
        refine j_callV F (c_count hn4 hu) co_X5_count ml_L_13 im_X5_count se_X5_count in_X5 rc_X5_count rfl (by decide) (by decide) ⟨by decide, rfl⟩ rfl rfl (Nat.le_of_ble_eq_true rfl) dL_holds_309 (fun r u hr => ?_)
        obtain ⟨rfl, hu⟩ := hr
        refine j_tl ?_
        refine j_top ((show S_count f n (nI ln) 1 = remI f 10 from rfl).trans (remI_cnt (h01 hw) 10 (by decide))) ?_
        refine j_icmp_ne F.1 373 dL_holds_312 (by decide) (fun h312 => ?_) (fun h312 => ?_)
        · exact absurd rfl h312
        · refine j_iload F.1 dL_holds_315 rfl ?_
          refine j_iconst F.1 (1) dL_holds_317 (by decide) ?_
          refine j_iload_n F.1 dL_holds_318 rfl ?_
          refine j_ishl F.1 dL_holds_319 ?_
          refine j_iconst F.1 (1) dL_holds_320 (by decide) ?_
          refine j_isub F.1 dL_holds_321 ?_
          refine j_icmp_ne F.1 373 dL_holds_322 (by decide) (fun h322 => ?_) (fun h322 => ?_)
          · exact absurd ((congrArg nI (PL_all hc)).trans (two_many _ (cntH_le 10)).symm) h322
          · refine j_iload_n F.1 dL_holds_325 rfl ?_
            refine j_aload_n F.1 dL_holds_326 rfl ?_
            refine j_iconst F.1 (4) dL_holds_327 (by decide) ?_
            refine j_callV F (c_which hn4 hu hw (x := 4)) co_X5_which ml_L_26 im_X5_which se_X5_which in_X5 rc_X5_which rfl (by decide) (by decide) ⟨by decide, rfl⟩ rfl rfl (Nat.le_of_ble_eq_true rfl) dL_holds_328 (fun r u hr => ?_)
            obtain ⟨rfl, hu⟩ := hr
            refine j_tl ?_
            refine j_top (S_wh (by decide)) ?_
            refine j_iand F.1 dL_holds_331 ?_
            refine j_if_ne F.1 373 dL_holds_332 (by decide) (fun h332 => ?_) (fun h332 => ?_)
            · exact absurd ring_great h332
            · refine j_aload_n F.1 dL_holds_335 rfl ?_
              refine j_bipush F.1 (7) dL_holds_336 (by decide) ?_
              refine j_callV F (c_count hn4 hu) co_X5_count ml_L_13 im_X5_count se_X5_count in_X5 rc_X5_count rfl (by decide) (by decide) ⟨by decide, rfl⟩ rfl rfl (Nat.le_of_ble_eq_true rfl) dL_holds_338 (fun r u hr => ?_)
              obtain ⟨rfl, hu⟩ := hr
              refine j_tl ?_
              refine j_top (show S_count f n (nI ln) 7 = f 6 from rfl) ?_
              refine j_aload_n F.1 dL_holds_341 rfl ?_
              refine j_iconst F.1 (2) dL_holds_342 (by decide) ?_
              refine j_callV F (c_count hn4 hu) co_X5_count ml_L_13 im_X5_count se_X5_count in_X5 rc_X5_count rfl (by decide) (by decide) ⟨by decide, rfl⟩ rfl rfl (Nat.le_of_ble_eq_true rfl) dL_holds_343 (fun r u hr => ?_)
              obtain ⟨rfl, hu⟩ := hr
              refine j_tl ?_
              refine j_top (show S_count f n (nI ln) 2 = f 1 from rfl) ?_
              refine j_icmp_gt F.1 373 dL_holds_346 (by decide) (fun h346 => ?_) (fun h346 => ?_)
              · exact absurd h346 (same_le hc)
              · refine j_aload_n F.1 dL_holds_349 rfl ?_
                refine j_bipush F.1 (6) dL_holds_350 (by decide) ?_
                refine j_callV F (c_count hn4 hu) co_X5_count ml_L_13 im_X5_count se_X5_count in_X5 rc_X5_count rfl (by decide) (by decide) ⟨by decide, rfl⟩ rfl rfl (Nat.le_of_ble_eq_true rfl) dL_holds_352 (fun r u hr => ?_)
                obtain ⟨rfl, hu⟩ := hr
                refine j_tl ?_
                refine j_top (show S_count f n (nI ln) 6 = f 5 from rfl) ?_
                refine j_if_lt F.1 373 dL_holds_355 (by decide) (fun h355 => ?_) (fun h355 => ?_)
                · exact absurd h355 (bound_10 hw hb).1
                · refine j_aload_n F.1 dL_holds_358 rfl ?_
                  refine j_bipush F.1 (6) dL_holds_359 (by decide) ?_
                  refine j_callV F (c_count hn4 hu) co_X5_count ml_L_13 im_X5_count se_X5_count in_X5 rc_X5_count rfl (by decide) (by decide) ⟨by decide, rfl⟩ rfl rfl (Nat.le_of_ble_eq_true rfl) dL_holds_361 (fun r u hr => ?_)
                  obtain ⟨rfl, hu⟩ := hr
                  refine j_tl ?_
                  refine j_top (show S_count f n (nI ln) 6 = f 5 from rfl) ?_
                  refine j_bipush F.1 (10) dL_holds_364 (by decide) ?_
                  refine j_icmp_gt F.1 373 dL_holds_366 (by decide) (fun h366 => ?_) (fun h366 => ?_)
                  · exact absurd h366 (bound_10 hw hb).2
                  · refine j_iconst F.1 (1) dL_holds_369 (by decide) ?_
                    refine j_goto F.1 374 dL_holds_370 (by decide) ?_
                    exact j_zret F (Or.inr rfl) dL_holds_374 ⟨rfl, hu⟩
      · have hi : t < 10 := Nat.lt_of_not_le (fun z => h24 ((nI_leI (a := 10) (b := t) (by omega) (by omega)).mpr z))
        by_cases h6 : f (ix t 6) = 1
        · have hI := hS.2 t hi h6
          have hcn : nI (cntH f t) + 1 = nI (cntH f (t + 1)) := by
            show _ = nI (cntH f t + (if f (ix t 6) = 1 then 1 else 0))
            rw [if_pos h6, nI_1]
          refine j_iload_n F.1 dL_holds_27 rfl ?_
          refine j_iload F.1 dL_holds_28 rfl ?_
          refine j_ishr F.1 dL_holds_30 ?_
          refine j_iconst F.1 (1) dL_holds_31 (by decide) ?_
          refine j_iand F.1 dL_holds_32 ?_
          refine j_top (y := 1) (wh_1 hi (by rw [one_1, b2_t h6]; decide)) ?_
          refine j_iconst F.1 (1) dL_holds_33 (by decide) ?_
          refine j_icmp_ne F.1 41 dL_holds_34 (by decide) (fun h34 => False.elim (by revert h34; decide)) (fun _ => ?_)
          refine j_iconst F.1 (1) dL_holds_37 (by decide) ?_
          refine j_goto F.1 42 dL_holds_38 (by decide) ?_
          refine j_istore F.1 dL_holds_42 (by rw [hn]; decide) ?_
          refine j_aload_n F.1 dL_holds_44 rfl ?_
          refine j_iload F.1 dL_holds_45 rfl ?_
          refine j_iconst F.1 (0) dL_holds_47 (by decide) ?_
          refine j_callV F (c_cellOf hn4 hu) co_X5_cellOf ml_L_19 im_X5_cellOf se_X5_cellOf in_X5 rc_X5_cellOf rfl (by decide) (by decide) ⟨by decide, rfl⟩ rfl rfl (Nat.le_of_ble_eq_true rfl) dL_holds_48 (fun r u hr => ?_)
          obtain ⟨rfl, hu⟩ := hr
          refine j_tl ?_
          refine j_top (ceo_0 hi) ?_
          refine j_istore F.1 dL_holds_51 (by rw [hn]; decide) ?_
          refine j_iload_n F.1 dL_holds_53 rfl ?_
          refine j_iload F.1 dL_holds_54 rfl ?_
          refine j_if_eq F.1 63 dL_holds_56 (by decide) (fun h56 => False.elim (by revert h56; decide)) (fun _ => ?_)
          refine j_iconst F.1 (1) dL_holds_59 (by decide) ?_
          refine j_goto F.1 64 dL_holds_60 (by decide) ?_
          refine j_iadd F.1 dL_holds_64 ?_
          refine j_istore_n F.1 dL_holds_65 (by rw [hn]; decide) ?_
          refine j_iload F.1 dL_holds_66 rfl ?_
          refine j_iload F.1 dL_holds_68 rfl ?_
          refine j_if_eq F.1 86 dL_holds_70 (by decide) (fun h70 => False.elim (by revert h70; decide)) (fun _ => ?_)
          refine j_iconst F.1 (1) dL_holds_73 (by decide) ?_
          refine j_aload_n F.1 dL_holds_74 rfl ?_
          refine j_iload F.1 dL_holds_75 rfl ?_
          refine j_bipush F.1 (6) dL_holds_77 (by decide) ?_
          refine j_callV F (c_rem hn4 hu hw) co_X5_rememberedOf ml_L_23 im_X5_rememberedOf se_X5_rememberedOf in_X5 rc_X5_rememberedOf rfl (by decide) (by decide) ⟨by decide, rfl⟩ rfl rfl (Nat.le_of_ble_eq_true rfl) dL_holds_79 (fun r u hr => ?_)
          obtain ⟨rfl, hu⟩ := hr
          refine j_tl ?_
          refine j_top (rv_6 hi h6) ?_
          refine j_ishl F.1 dL_holds_82 ?_
          refine j_goto F.1 87 dL_holds_83 (by decide) ?_
          refine j_ior F.1 dL_holds_87 ?_
          refine j_istore F.1 dL_holds_88 (by rw [hn]; decide) ?_
          refine j_iload F.1 dL_holds_90 rfl ?_
          refine j_if_lt F.1 199 dL_holds_92 (by decide) (fun h92 => ?_) (fun h92 => ?_)
          · exact absurd h92 (form_05 hw hi).1
          · refine j_iload F.1 dL_holds_95 rfl ?_
            refine j_iconst F.1 (5) dL_holds_97 (by decide) ?_
            refine j_icmp_gt F.1 199 dL_holds_98 (by decide) (fun h98 => ?_) (fun h98 => ?_)
            · exact absurd h98 (form_05 hw hi).2
            · refine j_iload F.1 dL_holds_101 rfl ?_
              refine j_if_eq F.1 182 dL_holds_103 (by decide) (fun h103 => False.elim (by revert h103; decide)) (fun _ => ?_)
              refine j_iload F.1 dL_holds_106 rfl ?_
              refine j_if_eq F.1 199 dL_holds_108 (by decide) (fun h108 => ?_) (fun h108 => ?_)
              · exact absurd h108 (has_f hw hi h6)
              · refine j_aload_n F.1 dL_holds_111 rfl ?_
                refine j_iload F.1 dL_holds_112 rfl ?_
                refine j_iconst F.1 (4) dL_holds_114 (by decide) ?_
                refine j_callV F (c_rem hn4 hu hw) co_X5_rememberedOf ml_L_23 im_X5_rememberedOf se_X5_rememberedOf in_X5 rc_X5_rememberedOf rfl (by decide) (by decide) ⟨by decide, rfl⟩ rfl rfl (Nat.le_of_ble_eq_true rfl) dL_holds_115 (fun r u hr => ?_)
                obtain ⟨rfl, hu⟩ := hr
                refine j_tl ?_
                refine j_top (rv_4 hw hi h6) ?_
                refine j_aload_n F.1 dL_holds_118 rfl ?_
                refine j_iload F.1 dL_holds_119 rfl ?_
                refine j_iconst F.1 (2) dL_holds_121 (by decide) ?_
                refine j_callV F (c_cellOf hn4 hu) co_X5_cellOf ml_L_19 im_X5_cellOf se_X5_cellOf in_X5 rc_X5_cellOf rfl (by decide) (by decide) ⟨by decide, rfl⟩ rfl rfl (Nat.le_of_ble_eq_true rfl) dL_holds_122 (fun r u hr => ?_)
                obtain ⟨rfl, hu⟩ := hr
                refine j_tl ?_
                refine j_top (ceo_2 hi (has_f hw hi h6)) ?_
                refine j_icmp_ne F.1 199 dL_holds_125 (by decide) (fun h125 => ?_) (fun h125 => ?_)
                · exact absurd rfl h125
                · refine j_aload_n F.1 dL_holds_128 rfl ?_
                  refine j_iload F.1 dL_holds_129 rfl ?_
                  refine j_iconst F.1 (3) dL_holds_131 (by decide) ?_
                  refine j_callV F (c_rem hn4 hu hw) co_X5_rememberedOf ml_L_23 im_X5_rememberedOf se_X5_rememberedOf in_X5 rc_X5_rememberedOf rfl (by decide) (by decide) ⟨by decide, rfl⟩ rfl rfl (Nat.le_of_ble_eq_true rfl) dL_holds_132 (fun r u hr => ?_)
                  obtain ⟨rfl, hu⟩ := hr
                  refine j_tl ?_
                  refine j_top ((rv_a hi h6).2.2.2) ?_
                  refine j_iconst F.1 (1) dL_holds_135 (by decide) ?_
                  refine j_icmp_lt F.1 199 dL_holds_136 (by decide) (fun h136 => ?_) (fun h136 => ?_)
                  · exact absurd h136 (many_12 hw hi h6).1
                  · refine j_aload_n F.1 dL_holds_139 rfl ?_
                    refine j_iload F.1 dL_holds_140 rfl ?_
                    refine j_iconst F.1 (3) dL_holds_142 (by decide) ?_
                    refine j_callV F (c_rem hn4 hu hw) co_X5_rememberedOf ml_L_23 im_X5_rememberedOf se_X5_rememberedOf in_X5 rc_X5_rememberedOf rfl (by decide) (by decide) ⟨by decide, rfl⟩ rfl rfl (Nat.le_of_ble_eq_true rfl) dL_holds_143 (fun r u hr => ?_)
                    obtain ⟨rfl, hu⟩ := hr
                    refine j_tl ?_
                    refine j_top ((rv_a hi h6).2.2.2) ?_
                    refine j_iconst F.1 (2) dL_holds_146 (by decide) ?_
                    refine j_icmp_gt F.1 199 dL_holds_147 (by decide) (fun h147 => ?_) (fun h147 => ?_)
                    · exact absurd h147 (many_12 hw hi h6).2.1
                    · refine j_aload_n F.1 dL_holds_150 rfl ?_
                      refine j_iload F.1 dL_holds_151 rfl ?_
                      refine j_iconst F.1 (1) dL_holds_153 (by decide) ?_
                      refine j_callV F (c_rem hn4 hu hw) co_X5_rememberedOf ml_L_23 im_X5_rememberedOf se_X5_rememberedOf in_X5 rc_X5_rememberedOf rfl (by decide) (by decide) ⟨by decide, rfl⟩ rfl rfl (Nat.le_of_ble_eq_true rfl) dL_holds_154 (fun r u hr => ?_)
                      obtain ⟨rfl, hu⟩ := hr
                      refine j_tl ?_
                      refine j_top ((rv_a hi h6).2.1) ?_
                      refine j_aload_n F.1 dL_holds_157 rfl ?_
                      refine j_iload F.1 dL_holds_158 rfl ?_
                      refine j_iconst F.1 (2) dL_holds_160 (by decide) ?_
                      refine j_callV F (c_rem hn4 hu hw) co_X5_rememberedOf ml_L_23 im_X5_rememberedOf se_X5_rememberedOf in_X5 rc_X5_rememberedOf rfl (by decide) (by decide) ⟨by decide, rfl⟩ rfl rfl (Nat.le_of_ble_eq_true rfl) dL_holds_161 (fun r u hr => ?_)
                      obtain ⟨rfl, hu⟩ := hr
                      refine j_tl ?_
                      refine j_top ((rv_a hi h6).2.2.1) ?_
                      refine j_icmp_gt F.1 199 dL_holds_164 (by decide) (fun h164 => ?_) (fun h164 => ?_)
                      · exact absurd h164 (Int32.not_lt.mpr (Int32.le_iff_toInt_le.mpr hI.2.1))
                      · refine j_aload_n F.1 dL_holds_167 rfl ?_
                        refine j_iload F.1 dL_holds_168 rfl ?_
                        refine j_iconst F.1 (2) dL_holds_170 (by decide) ?_
                        refine j_callV F (c_rem hn4 hu hw) co_X5_rememberedOf ml_L_23 im_X5_rememberedOf se_X5_rememberedOf in_X5 rc_X5_rememberedOf rfl (by decide) (by decide) ⟨by decide, rfl⟩ rfl rfl (Nat.le_of_ble_eq_true rfl) dL_holds_171 (fun r u hr => ?_)
                        obtain ⟨rfl, hu⟩ := hr
                        refine j_tl ?_
                        refine j_top ((rv_a hi h6).2.2.1) ?_
                        refine j_aload_n F.1 dL_holds_174 rfl ?_
                        refine j_iconst F.1 (0) dL_holds_175 (by decide) ?_
                        refine j_callV F (c_count hn4 hu) co_X5_count ml_L_13 im_X5_count se_X5_count in_X5 rc_X5_count rfl (by decide) (by decide) ⟨by decide, rfl⟩ rfl rfl (Nat.le_of_ble_eq_true rfl) dL_holds_176 (fun r u hr => ?_)
                        obtain ⟨rfl, hu⟩ := hr
                        refine j_tl ?_
                        refine j_top (show S_count f n (nI ln) 0 = f 0 from rfl) ?_
                        refine j_icmp_gt F.1 199 dL_holds_179 (by decide) (fun h179 => ?_) (fun h179 => ?_)
                        · exact absurd h179 (Int32.not_lt.mpr (Int32.le_iff_toInt_le.mpr hI.2.2.1))
                        · refine j_iload F.1 dL_holds_182 rfl ?_
                          refine j_if_ne F.1 201 dL_holds_184 (by decide) (fun _ => ?_) (fun h184 => False.elim (by revert h184; decide))
                          refine j_iload F.1 dL_holds_201 rfl ?_
                          refine j_if_eq F.1 225 dL_holds_203 (by decide) (fun h203 => False.elim (by revert h203; decide)) (fun _ => ?_)
                          refine j_aload_n F.1 dL_holds_206 rfl ?_
                          refine j_iload F.1 dL_holds_207 rfl ?_
                          refine j_iconst F.1 (2) dL_holds_209 (by decide) ?_
                          refine j_callV F (c_rem hn4 hu hw) co_X5_rememberedOf ml_L_23 im_X5_rememberedOf se_X5_rememberedOf in_X5 rc_X5_rememberedOf rfl (by decide) (by decide) ⟨by decide, rfl⟩ rfl rfl (Nat.le_of_ble_eq_true rfl) dL_holds_210 (fun r u hr => ?_)
                          obtain ⟨rfl, hu⟩ := hr
                          refine j_tl ?_
                          refine j_top ((rv_a hi h6).2.2.1) ?_
                          refine j_aload_n F.1 dL_holds_213 rfl ?_
                          refine j_iconst F.1 (0) dL_holds_214 (by decide) ?_
                          refine j_callV F (c_count hn4 hu) co_X5_count ml_L_13 im_X5_count se_X5_count in_X5 rc_X5_count rfl (by decide) (by decide) ⟨by decide, rfl⟩ rfl rfl (Nat.le_of_ble_eq_true rfl) dL_holds_215 (fun r u hr => ?_)
                          obtain ⟨rfl, hu⟩ := hr
                          refine j_tl ?_
                          refine j_top (show S_count f n (nI ln) 0 = f 0 from rfl) ?_
                          refine j_icmp_ne F.1 225 dL_holds_218 (by decide) (fun h218 => ?_) (fun h218 => ?_)
                          · have o2 : one f t 2 = 0 := by rw [one_2]; exact b2_f (fun z => h218 z.2)
                            refine j_iconst F.1 (0) dL_holds_225 (by decide) ?_
                            refine j_istore F.1 dL_holds_226 (by rw [hn]; decide) ?_
                            refine j_iload F.1 dL_holds_228 rfl ?_
                            refine j_aload_n F.1 dL_holds_230 rfl ?_
                            refine j_iconst F.1 (2) dL_holds_231 (by decide) ?_
                            refine j_callV F (c_which hn4 hu hw (x := 2)) co_X5_which ml_L_26 im_X5_which se_X5_which in_X5 rc_X5_which rfl (by decide) (by decide) ⟨by decide, rfl⟩ rfl rfl (Nat.le_of_ble_eq_true rfl) dL_holds_232 (fun r u hr => ?_)
                            obtain ⟨rfl, hu⟩ := hr
                            refine j_tl ?_
                            refine j_top (S_wh (by decide)) ?_
                            refine j_iload F.1 dL_holds_235 rfl ?_
                            refine j_ishr F.1 dL_holds_237 ?_
                            refine j_iconst F.1 (1) dL_holds_238 (by decide) ?_
                            refine j_iand F.1 dL_holds_239 ?_
                            refine j_top (y := 0) (wh_0 hi o2) ?_
                            refine j_iconst F.1 (1) dL_holds_240 (by decide) ?_
                            refine j_icmp_ne F.1 248 dL_holds_241 (by decide) (fun _ => ?_) (fun h241 => False.elim (by revert h241; decide))
                            refine j_iconst F.1 (0) dL_holds_248 (by decide) ?_
                            refine j_icmp_ne F.1 298 dL_holds_249 (by decide) (fun h249 => False.elim (by revert h249; decide)) (fun _ => ?_)
                            refine j_iload F.1 dL_holds_252 rfl ?_
                            refine j_if_eq F.1 300 dL_holds_254 (by decide) (fun _ => ?_) (fun h254 => False.elim (by revert h254; decide))
                            refine j_iinc F.1 (1) dL_holds_300 (by decide) rfl (by rw [hn]; decide) ?_
                            refine j_goto F.1 20 dL_holds_303 (by decide) ?_
                            refine j_loc [(5, .int (nI (t + 1))), (4, .int (nI (PL f (t + 1)))), (3, .int (nI (cntH f (t + 1)))), (2, .int (nI (WN f 3 10))), (1, .int (nI (WN f 1 10))), (0, .ref (Y.2.1 0))] (by rw [← PL_1 hi h6, ← hcn, ← nI_1]; rfl) ?_
                            exact ih (t + 1) (by omega) (by omega) _ hu
                          · have o2 : one f t 2 = 1 := by rw [one_2]; exact b2_t ⟨h6, h218⟩
                            have nt := now_told hS hw hi h6 h218
                            refine j_iconst F.1 (1) dL_holds_221 (by decide) ?_
                            refine j_goto F.1 226 dL_holds_222 (by decide) ?_
                            refine j_istore F.1 dL_holds_226 (by rw [hn]; decide) ?_
                            refine j_iload F.1 dL_holds_228 rfl ?_
                            refine j_aload_n F.1 dL_holds_230 rfl ?_
                            refine j_iconst F.1 (2) dL_holds_231 (by decide) ?_
                            refine j_callV F (c_which hn4 hu hw (x := 2)) co_X5_which ml_L_26 im_X5_which se_X5_which in_X5 rc_X5_which rfl (by decide) (by decide) ⟨by decide, rfl⟩ rfl rfl (Nat.le_of_ble_eq_true rfl) dL_holds_232 (fun r u hr => ?_)
                            obtain ⟨rfl, hu⟩ := hr
                            refine j_tl ?_
                            refine j_top (S_wh (by decide)) ?_
                            refine j_iload F.1 dL_holds_235 rfl ?_
                            refine j_ishr F.1 dL_holds_237 ?_
                            refine j_iconst F.1 (1) dL_holds_238 (by decide) ?_
                            refine j_iand F.1 dL_holds_239 ?_
                            refine j_top (y := 1) (wh_1 hi (by rw [o2]; decide)) ?_
                            refine j_iconst F.1 (1) dL_holds_240 (by decide) ?_
                            refine j_icmp_ne F.1 248 dL_holds_241 (by decide) (fun h241 => False.elim (by revert h241; decide)) (fun _ => ?_)
                            refine j_iconst F.1 (1) dL_holds_244 (by decide) ?_
                            refine j_goto F.1 249 dL_holds_245 (by decide) ?_
                            refine j_icmp_ne F.1 298 dL_holds_249 (by decide) (fun h249 => False.elim (by revert h249; decide)) (fun _ => ?_)
                            refine j_iload F.1 dL_holds_252 rfl ?_
                            refine j_if_eq F.1 300 dL_holds_254 (by decide) (fun h254 => False.elim (by revert h254; decide)) (fun _ => ?_)
                            refine j_iload_n F.1 dL_holds_257 rfl ?_
                            refine j_iload F.1 dL_holds_258 rfl ?_
                            refine j_ishr F.1 dL_holds_260 ?_
                            refine j_iconst F.1 (1) dL_holds_261 (by decide) ?_
                            refine j_iand F.1 dL_holds_262 ?_
                            refine j_top (y := 0) (wh_0 hi nt.1) ?_
                            refine j_if_ne F.1 300 dL_holds_263 (by decide) (fun h263 => False.elim (by revert h263; decide)) (fun _ => ?_)
                            refine j_aload_n F.1 dL_holds_266 rfl ?_
                            refine j_iload F.1 dL_holds_267 rfl ?_
                            refine j_iconst F.1 (0) dL_holds_269 (by decide) ?_
                            refine j_callV F (c_rem hn4 hu hw) co_X5_rememberedOf ml_L_23 im_X5_rememberedOf se_X5_rememberedOf in_X5 rc_X5_rememberedOf rfl (by decide) (by decide) ⟨by decide, rfl⟩ rfl rfl (Nat.le_of_ble_eq_true rfl) dL_holds_270 (fun r u hr => ?_)
                            obtain ⟨rfl, hu⟩ := hr
                            refine j_tl ?_
                            refine j_top ((rv_a hi h6).1) ?_
                            refine j_aload_n F.1 dL_holds_273 rfl ?_
                            refine j_iload F.1 dL_holds_274 rfl ?_
                            refine j_callV F (c_fresh hn4 hu hw) co_X5_fresh ml_L_32 im_X5_fresh se_X5_fresh in_X5 rc_X5_fresh rfl (by decide) (by decide) ⟨by decide, rfl⟩ rfl rfl (Nat.le_of_ble_eq_true rfl) dL_holds_276 (fun r u hr => ?_)
                            obtain ⟨rfl, hu⟩ := hr
                            refine j_tl ?_
                            refine j_top (fresh_i hi) ?_
                            refine j_ldc F cn_L_35 dL_holds_279 ?_
                            refine j_icmp_ne F.1 289 dL_holds_281 (by decide) (fun h281 => ?_) (fun h281 => ?_)
                            · refine j_aload_n F.1 dL_holds_289 rfl ?_
                              refine j_iload F.1 dL_holds_290 rfl ?_
                              refine j_callV F (c_fresh hn4 hu hw) co_X5_fresh ml_L_32 im_X5_fresh se_X5_fresh in_X5 rc_X5_fresh rfl (by decide) (by decide) ⟨by decide, rfl⟩ rfl rfl (Nat.le_of_ble_eq_true rfl) dL_holds_292 (fun r u hr => ?_)
                              obtain ⟨rfl, hu⟩ := hr
                              refine j_tl ?_
                              refine j_top (fresh_i hi) ?_
                              refine j_icmp_eq F.1 300 dL_holds_295 (by decide) (fun h295 => ?_) (fun h295 => ?_)
                              · refine j_iinc F.1 (1) dL_holds_300 (by decide) rfl (by rw [hn]; decide) ?_
                                refine j_goto F.1 20 dL_holds_303 (by decide) ?_
                                refine j_loc [(5, .int (nI (t + 1))), (4, .int (nI (PL f (t + 1)))), (3, .int (nI (cntH f (t + 1)))), (2, .int (nI (WN f 3 10))), (1, .int (nI (WN f 1 10))), (0, .ref (Y.2.1 0))] (by rw [← PL_1 hi h6, ← hcn, ← nI_1]; rfl) ?_
                                exact ih (t + 1) (by omega) (by omega) _ hu
                              · first | exact absurd (nt.2.1 h281) h295 | exact absurd (nt.2.2 h281) h295
                            · refine j_ldc F cn_L_36 dL_holds_284 ?_
                              refine j_goto F.1 295 dL_holds_286 (by decide) ?_
                              refine j_icmp_eq F.1 300 dL_holds_295 (by decide) (fun h295 => ?_) (fun h295 => ?_)
                              · refine j_iinc F.1 (1) dL_holds_300 (by decide) rfl (by rw [hn]; decide) ?_
                                refine j_goto F.1 20 dL_holds_303 (by decide) ?_
                                refine j_loc [(5, .int (nI (t + 1))), (4, .int (nI (PL f (t + 1)))), (3, .int (nI (cntH f (t + 1)))), (2, .int (nI (WN f 3 10))), (1, .int (nI (WN f 1 10))), (0, .ref (Y.2.1 0))] (by rw [← PL_1 hi h6, ← hcn, ← nI_1]; rfl) ?_
                                exact ih (t + 1) (by omega) (by omega) _ hu
                              · first | exact absurd (nt.2.1 h281) h295 | exact absurd (nt.2.2 h281) h295
        · have h0 : f (ix t 6) = 0 := (h01 hw t hi).resolve_right h6
          have o2 : one f t 2 = 0 := by rw [one_2]; exact b2_f (fun z => h6 z.1)
          have hcn : nI (cntH f t) + 0 = nI (cntH f (t + 1)) := by
            show _ = nI (cntH f t + (if f (ix t 6) = 1 then 1 else 0))
            rw [if_neg h6]
            exact Int32.add_zero _
          refine j_iload_n F.1 dL_holds_27 rfl ?_
          refine j_iload F.1 dL_holds_28 rfl ?_
          refine j_ishr F.1 dL_holds_30 ?_
          refine j_iconst F.1 (1) dL_holds_31 (by decide) ?_
          refine j_iand F.1 dL_holds_32 ?_
          refine j_top (y := 0) (wh_0 hi (by rw [one_1]; exact b2_f h6)) ?_
          refine j_iconst F.1 (1) dL_holds_33 (by decide) ?_
          refine j_icmp_ne F.1 41 dL_holds_34 (by decide) (fun _ => ?_) (fun h34 => False.elim (by revert h34; decide))
          refine j_iconst F.1 (0) dL_holds_41 (by decide) ?_
          refine j_istore F.1 dL_holds_42 (by rw [hn]; decide) ?_
          refine j_aload_n F.1 dL_holds_44 rfl ?_
          refine j_iload F.1 dL_holds_45 rfl ?_
          refine j_iconst F.1 (0) dL_holds_47 (by decide) ?_
          refine j_callV F (c_cellOf hn4 hu) co_X5_cellOf ml_L_19 im_X5_cellOf se_X5_cellOf in_X5 rc_X5_cellOf rfl (by decide) (by decide) ⟨by decide, rfl⟩ rfl rfl (Nat.le_of_ble_eq_true rfl) dL_holds_48 (fun r u hr => ?_)
          obtain ⟨rfl, hu⟩ := hr
          refine j_tl ?_
          refine j_top (ceo_0 hi) ?_
          refine j_istore F.1 dL_holds_51 (by rw [hn]; decide) ?_
          refine j_iload_n F.1 dL_holds_53 rfl ?_
          refine j_iload F.1 dL_holds_54 rfl ?_
          refine j_if_eq F.1 63 dL_holds_56 (by decide) (fun _ => ?_) (fun h56 => False.elim (by revert h56; decide))
          refine j_iconst F.1 (0) dL_holds_63 (by decide) ?_
          refine j_iadd F.1 dL_holds_64 ?_
          refine j_istore_n F.1 dL_holds_65 (by rw [hn]; decide) ?_
          refine j_iload F.1 dL_holds_66 rfl ?_
          refine j_iload F.1 dL_holds_68 rfl ?_
          refine j_if_eq F.1 86 dL_holds_70 (by decide) (fun _ => ?_) (fun h70 => False.elim (by revert h70; decide))
          refine j_iconst F.1 (0) dL_holds_86 (by decide) ?_
          refine j_ior F.1 dL_holds_87 ?_
          refine j_istore F.1 dL_holds_88 (by rw [hn]; decide) ?_
          refine j_iload F.1 dL_holds_90 rfl ?_
          refine j_if_lt F.1 199 dL_holds_92 (by decide) (fun h92 => ?_) (fun h92 => ?_)
          · exact absurd h92 (form_05 hw hi).1
          · refine j_iload F.1 dL_holds_95 rfl ?_
            refine j_iconst F.1 (5) dL_holds_97 (by decide) ?_
            refine j_icmp_gt F.1 199 dL_holds_98 (by decide) (fun h98 => ?_) (fun h98 => ?_)
            · exact absurd h98 (form_05 hw hi).2
            · refine j_iload F.1 dL_holds_101 rfl ?_
              refine j_if_eq F.1 182 dL_holds_103 (by decide) (fun _ => ?_) (fun h103 => False.elim (by revert h103; decide))
              refine j_iload F.1 dL_holds_182 rfl ?_
              refine j_if_ne F.1 201 dL_holds_184 (by decide) (fun h184 => False.elim (by revert h184; decide)) (fun _ => ?_)
              refine j_aload_n F.1 dL_holds_187 rfl ?_
              refine j_iload F.1 dL_holds_188 rfl ?_
              refine j_iconst F.1 (0) dL_holds_190 (by decide) ?_
              refine j_callV F (c_rem hn4 hu hw) co_X5_rememberedOf ml_L_23 im_X5_rememberedOf se_X5_rememberedOf in_X5 rc_X5_rememberedOf rfl (by decide) (by decide) ⟨by decide, rfl⟩ rfl rfl (Nat.le_of_ble_eq_true rfl) dL_holds_191 (fun r u hr => ?_)
              obtain ⟨rfl, hu⟩ := hr
              refine j_tl ?_
              refine j_top (rv_0 (w := 0) hi (by decide) h0) ?_
              refine j_ldc F cn_L_31 dL_holds_194 ?_
              refine j_icmp_eq F.1 201 dL_holds_196 (by decide) (fun h196 => ?_) (fun h196 => ?_)
              · refine j_iload F.1 dL_holds_201 rfl ?_
                refine j_if_eq F.1 225 dL_holds_203 (by decide) (fun _ => ?_) (fun h203 => False.elim (by revert h203; decide))
                refine j_iconst F.1 (0) dL_holds_225 (by decide) ?_
                refine j_istore F.1 dL_holds_226 (by rw [hn]; decide) ?_
                refine j_iload F.1 dL_holds_228 rfl ?_
                refine j_aload_n F.1 dL_holds_230 rfl ?_
                refine j_iconst F.1 (2) dL_holds_231 (by decide) ?_
                refine j_callV F (c_which hn4 hu hw (x := 2)) co_X5_which ml_L_26 im_X5_which se_X5_which in_X5 rc_X5_which rfl (by decide) (by decide) ⟨by decide, rfl⟩ rfl rfl (Nat.le_of_ble_eq_true rfl) dL_holds_232 (fun r u hr => ?_)
                obtain ⟨rfl, hu⟩ := hr
                refine j_tl ?_
                refine j_top (S_wh (by decide)) ?_
                refine j_iload F.1 dL_holds_235 rfl ?_
                refine j_ishr F.1 dL_holds_237 ?_
                refine j_iconst F.1 (1) dL_holds_238 (by decide) ?_
                refine j_iand F.1 dL_holds_239 ?_
                refine j_top (y := 0) (wh_0 hi o2) ?_
                refine j_iconst F.1 (1) dL_holds_240 (by decide) ?_
                refine j_icmp_ne F.1 248 dL_holds_241 (by decide) (fun _ => ?_) (fun h241 => False.elim (by revert h241; decide))
                refine j_iconst F.1 (0) dL_holds_248 (by decide) ?_
                refine j_icmp_ne F.1 298 dL_holds_249 (by decide) (fun h249 => False.elim (by revert h249; decide)) (fun _ => ?_)
                refine j_iload F.1 dL_holds_252 rfl ?_
                refine j_if_eq F.1 300 dL_holds_254 (by decide) (fun _ => ?_) (fun h254 => False.elim (by revert h254; decide))
                refine j_iinc F.1 (1) dL_holds_300 (by decide) rfl (by rw [hn]; decide) ?_
                refine j_goto F.1 20 dL_holds_303 (by decide) ?_
                refine j_loc [(5, .int (nI (t + 1))), (4, .int (nI (PL f (t + 1)))), (3, .int (nI (cntH f (t + 1)))), (2, .int (nI (WN f 3 10))), (1, .int (nI (WN f 1 10))), (0, .ref (Y.2.1 0))] (by rw [← PL_0 h6, ← hcn, ← nI_1]; rfl) ?_
                exact ih (t + 1) (by omega) (by omega) _ hu
              · exact absurd rfl h196
  have hu := hC
  refine j_aload_n F.1 dL_holds_0 rfl ?_
  refine j_iconst F.1 (1) dL_holds_1 (by decide) ?_
  refine j_callV F (c_which hn4 hu hw (x := 1)) co_X5_which ml_L_26 im_X5_which se_X5_which in_X5 rc_X5_which rfl (by decide) (by decide) ⟨by decide, rfl⟩ rfl rfl (Nat.le_of_ble_eq_true rfl) dL_holds_2 (fun r u hr => ?_)
  obtain ⟨rfl, hu⟩ := hr
  refine j_tl ?_
  refine j_top (S_wh (by decide)) ?_
  refine j_istore_n F.1 dL_holds_5 (by rw [hn]; decide) ?_
  refine j_aload_n F.1 dL_holds_6 rfl ?_
  refine j_iconst F.1 (3) dL_holds_7 (by decide) ?_
  refine j_callV F (c_which hn4 hu hw (x := 3)) co_X5_which ml_L_26 im_X5_which se_X5_which in_X5 rc_X5_which rfl (by decide) (by decide) ⟨by decide, rfl⟩ rfl rfl (Nat.le_of_ble_eq_true rfl) dL_holds_8 (fun r u hr => ?_)
  obtain ⟨rfl, hu⟩ := hr
  refine j_tl ?_
  refine j_top (S_wh (by decide)) ?_
  refine j_istore_n F.1 dL_holds_11 (by rw [hn]; decide) ?_
  refine j_iconst F.1 (0) dL_holds_12 (by decide) ?_
  refine j_istore_n F.1 dL_holds_13 (by rw [hn]; decide) ?_
  refine j_iconst F.1 (0) dL_holds_14 (by decide) ?_
  refine j_istore F.1 dL_holds_15 (by rw [hn]; decide) ?_
  refine j_iconst F.1 (0) dL_holds_17 (by decide) ?_
  refine j_istore F.1 dL_holds_18 (by rw [hn]; decide) ?_
  refine j_loc [(5, .int (nI (0))), (4, .int (nI (PL f (0)))), (3, .int (nI (cntH f (0)))), (2, .int (nI (WN f 3 10))), (1, .int (nI (WN f 1 10))), (0, .ref (Y.2.1 0))] rfl ?_
  exact loop 11 0 (by omega) (by omega) _ hu
