/-! The law: acts. -/
theorem AQ.up {u : rcM} {f p : Nat → Int32} {n : Nat} {B C : Int} (h : AQ u f p n B) (hB : B ≤ C) : AQ u f p n C := by
  obtain ⟨tx, ln, h1, h2⟩ := h
  refine ⟨tx, ln, h1, ?_⟩
  rcases h2 with q | ⟨g, q1, q2⟩
  · exact Or.inl q
  · exact Or.inr ⟨g, q1.up hB, q2⟩
theorem def_0 {f : Nat → Int32} {i : Nat} {a b c d e : Int32} : A_def f i a b c d e (ix i 0) = a := by
  unfold A_def
  split
  · rename_i h
    exact h.1
  · exact def1_0
theorem define_cases {f p : Nat → Int32} {n : Nat} {c x : Int32} {B : Int} (hI : INV f B) (hB : B + 100 < 2 ^ 31 - 1) : S_define f p n c x = S_no (-2000000001) f p n ∨ ∃ (i : Nat) (g : Nat → Int32), i < 10 ∧ c = nI i ∧ S_define f p n c x = S_act (g 0) f g p n ∧ INV g (B + 1) ∧ g (ix i 0) = 0 := by
  unfold S_define
  split
  · rename_i hc
    obtain ⟨i, hi, rfl⟩ := cell_of hc.1
    rw [cN_nI hi]
    exact Or.inr ⟨i, _, hi, rfl, rfl, inv_def hI (by omega) hi (Or.inl ⟨rfl, val_in hc.2, rfl, rfl, rfl⟩), def_0⟩
  · exact Or.inl rfl
theorem formula_cases {f p : Nat → Int32} {n : Nat} {c k x y z : Int32} {B : Int} (hI : INV f B) (hB : B + 100 < 2 ^ 31 - 1) : S_formula f p n c k x y z = S_no (-2000000001) f p n ∨ ∃ (i : Nat) (g : Nat → Int32), i < 10 ∧ c = nI i ∧ S_formula f p n c k x y z = S_act (g 0) f g p n ∧ INV g (B + 1) ∧ g (ix i 0) = k + 1 := by
  unfold S_formula
  by_cases hc : (0 ≤ c ∧ c ≤ 9) ∧ (0 ≤ k ∧ k ≤ 4) ∧ (0 ≤ x ∧ x ≤ 9) ∧ (0 ≤ y ∧ y ≤ 9) ∧ (0 ≤ z ∧ z ≤ (if k = 4 then (9 : Int32) else 0))
  · rw [if_pos hc]
    obtain ⟨i, hi, rfl⟩ := cell_of hc.1
    rw [cN_nI hi]
    exact Or.inr ⟨i, _, hi, rfl, rfl, inv_def hI (by omega) hi (DV_f hc.2), def_0⟩
  · rw [if_neg hc]
    exact Or.inl rfl
theorem Ub_11 : Ub 11 = 1398101 := by decide
theorem ask_cases {f p : Nat → Int32} {n : Nat} {c : Int32} {B : Int} (hI : INV f B) (hB : B + 2000000 < 2 ^ 31 - 1) : (∃ e : Int32, (e = -2000000001 ∨ e = -2000000002) ∧ S_ask f p n c = S_no e f p n ∧ S_fresh f c = e) ∨
    ∃ (a : Int32) (g : Nat → Int32), S_ask f p n c = S_act a f g p n ∧ INV g (B + 1398101) ∧ ((S_fresh f c = -2000000003 ∧ a = 2000000000) ∨ (¬ S_fresh f c = -2000000003 ∧ a = S_fresh f c)) ∧ ¬ g 5 < remI g 10 := by
  unfold S_ask S_fresh
  by_cases hc : 0 ≤ c ∧ c ≤ 9
  · rw [if_pos hc, if_pos hc]
    obtain ⟨i, hi, rfl⟩ := cell_of hc
    rw [cN_nI hi]
    obtain ⟨w, ⟨D, hS⟩, ct, h5, h0⟩ := id hI
    have q := look_EV hS w hi
    cases e : A_look 11 [] f i with
    | none =>
      rw [e] at q
      exact Or.inl ⟨-2000000002, Or.inr rfl, rfl, told_n q⟩
    | some g =>
      rw [e] at q
      obtain ⟨hSg, S, v⟩ := q
      have G := (A_look_good 11 _ _ _ _ hi (pre_0 w) e).1
      have hg := inv_look hI hi (by rw [Ub_11]; omega) e
      rw [Ub_11] at hg
      have ok := ok_n (EV_ok w hi v)
      refine Or.inr ⟨A_ans g i, A_trim 10 g, rfl, inv_trim 10 g _ hg, ?_, (trim_le 10 g hg.1 hg.2.2.2.1 (by have := cntH_le (f := g) 10; have := hg.1.2.2; omega)).2⟩
      rw [told_s v]
      dsimp only at ok ⊢
      by_cases h : A_ans g i = 2000000000
      · rw [if_pos h]
        exact Or.inl ⟨rfl, h⟩
      · rw [if_neg h]
        exact Or.inr ⟨ok.2, rfl⟩
  · rw [if_neg hc, if_neg hc]
    exact Or.inl ⟨-2000000001, Or.inl rfl, rfl, rfl⟩
theorem forget_cases {f p : Nat → Int32} {n : Nat} {c : Int32} {B : Int} (hI : INV f B) : (∃ e : Int32, (e = -2000000001 ∨ e = -2000000002) ∧ S_forget f p n c = S_no e f p n) ∨
    ∃ (m : Nat) (i : Nat) (g : Nat → Int32), S_forget f p n c = S_act (nI m) f g p n ∧ INV g B ∧ i < 10 ∧ c = nI i ∧ m < 10 ∧ nI (cntH f 10) - 1 = nI m ∧ g 4 = f 4 + 1 ∧ g (ix i 6) = 0 := by
  unfold S_forget
  by_cases hc : 0 ≤ c ∧ c ≤ 9
  · rw [if_pos hc]
    obtain ⟨i, hi, rfl⟩ := cell_of hc
    rw [cN_nI hi]
    by_cases h6 : f (ix i 6) = 0
    · rw [if_pos h6]
      exact Or.inl ⟨-2000000002, Or.inr rfl, rfl⟩
    · rw [if_neg h6]
      have h1 := (h01 hI.1 i hi).resolve_left h6
      have dc := drop_cnt (f := f) (c := i) 10
      rw [if_pos ⟨hi, h1⟩] at dc
      have c10 := cntH_le (f := f) 10
      have hg := inv_drop (c := i) hI
      refine Or.inr ⟨cntH (A_drop f i) 10, i, A_drop f i, by rw [remI_cnt (h01 hg.1) 10 (by decide)], hg, hi, rfl, by omega, ?_, ?_, drop_6 (by decide) (by decide)⟩
      · rw [← dc, nI_pred]
      · unfold A_drop
        rw [pk_us]
  · rw [if_neg hc]
    exact Or.inl ⟨-2000000001, Or.inl rfl, rfl⟩
theorem bound_cases {f p : Nat → Int32} {n j : Nat} {B : Int} (hI : INV f B) (hj : j < 12) : (j = 11 ∧ S_bound f p n (nI j) = S_no (-2000000001) f p n) ∨ (S_bound f p n (nI j) = S_act (f 5) f (upd f 5 (nI j)) p n ∧ INV (upd f 5 (nI j)) B) := by
  unfold S_bound
  by_cases h : 0 ≤ nI j ∧ nI j ≤ 10
  · rw [if_pos h]
    exact Or.inr ⟨rfl, inv_bound hI h⟩
  · rw [if_neg h]
    refine Or.inl ⟨?_, rfl⟩
    rcases Nat.lt_or_ge j 11 with q | q
    · exact absurd ⟨nI_pos' (by omega), nI_le (a := j) (b := 10) (by omega) (by decide)⟩ h
    · omega
set_option maxHeartbeats 8000000 in
set_option maxRecDepth 100000 in
theorem c_acts {Y : rcY} {la : Launch} {v : rcM} {f p tx : Nat → Int32} {n ln : Nat} {B : Int} (hn4 : n ≤ 4) (hC : CR v f p n tx ln) (hl60 : ln ≤ 60) (hI : INV f B) (hB : B + 2000100 < 2 ^ 31 - 1) {x y : Int32} : rcT shC 139 Y la 50 (yL_acts, cL_acts, 8, (some .boolean)) [.ref (Y.2.1 0), .int x, .int y] (v) (fun r u => r = some (.int 1) ∧ AQ u f p n (B + 2000000)) := by
  refine rcT.of (by decide +kernel) (Nat.le_of_ble_eq_true rfl) (fun X F hn => ?_)
  have hu := hC
  refine j_iload_n F.1 dL_acts_0 rfl ?_
  refine j_bipush F.1 (16) dL_acts_1 (by decide) ?_
  refine j_callSi F (c_low (N := 16) (by decide) (by decide)) co_L_low ml_L_37 st_L_low in_L rc_L_low rfl (by decide) (by decide) rfl (Nat.le_of_ble_eq_true rfl) dL_acts_3 ?_
  refine j_istore_n F.1 dL_acts_6 (by rw [hn]; decide) ?_
  refine j_iload_n F.1 dL_acts_7 rfl ?_
  refine j_iconst F.1 (4) dL_acts_8 (by decide) ?_
  refine j_ishr F.1 dL_acts_9 ?_
  refine j_bipush F.1 (11) dL_acts_10 (by decide) ?_
  refine j_callSi F (c_low (N := 11) (by decide) (by decide)) co_L_low ml_L_37 st_L_low in_L rc_L_low rfl (by decide) (by decide) rfl (Nat.le_of_ble_eq_true rfl) dL_acts_12 ?_
  generalize nI (lowN (x >>> (4 &&& 31)) 11) = c
  refine j_istore F.1 dL_acts_15 (by rw [hn]; decide) ?_
  refine j_iload_n F.1 dL_acts_17 rfl ?_
  refine j_iconst F.1 (2) dL_acts_18 (by decide) ?_
  refine j_icmp_ge F.1 72 dL_acts_19 (by decide) (fun h19 => ?_) (fun h19 => ?_)
  · refine j_iload_n F.1 dL_acts_72 rfl ?_
    refine j_bipush F.1 (6) dL_acts_73 (by decide) ?_
    refine j_icmp_ge F.1 180 dL_acts_75 (by decide) (fun h75 => ?_) (fun h75 => ?_)
    · refine j_iload_n F.1 dL_acts_180 rfl ?_
      refine j_bipush F.1 (11) dL_acts_181 (by decide) ?_
      refine j_icmp_ge F.1 248 dL_acts_183 (by decide) (fun h183 => ?_) (fun h183 => ?_)
      · refine j_iload_n F.1 dL_acts_248 rfl ?_
        refine j_bipush F.1 (11) dL_acts_249 (by decide) ?_
        refine j_icmp_ne F.1 342 dL_acts_251 (by decide) (fun h251 => ?_) (fun h251 => ?_)
        · refine j_iload_n F.1 dL_acts_342 rfl ?_
          refine j_bipush F.1 (12) dL_acts_343 (by decide) ?_
          refine j_icmp_ne F.1 427 dL_acts_345 (by decide) (fun h345 => ?_) (fun h345 => ?_)
          · refine j_aload_n F.1 dL_acts_427 rfl ?_
            refine j_iload_n F.1 dL_acts_428 rfl ?_
            refine j_callS F (c_types hn4 hu hl60) co_L_types ml_L_74 st_L_types in_L rc_L_types rfl (by decide) (by decide) rfl (Nat.le_of_ble_eq_true rfl) dL_acts_429 (fun r u hr => ?_)
            obtain ⟨rfl, hT⟩ := hr
            refine j_tl ?_
            refine j_if_eq F.1 446 dL_acts_432 (by decide) (fun h432 => ?_) (fun h432 => ?_)
            · exact absurd h432 (by decide)
            · refine j_aload_n F.1 dL_acts_435 rfl ?_
              refine j_callS F (c_plays hn4 hT hI (by omega)) co_L_plays ml_L_78 st_L_plays in_L rc_L_plays rfl (by decide) (by decide) rfl (Nat.le_of_ble_eq_true rfl) dL_acts_436 (fun r u hr => ?_)
              obtain ⟨rfl, hA⟩ := hr
              refine j_tl ?_
              refine j_if_eq F.1 446 dL_acts_439 (by decide) (fun h439 => ?_) (fun h439 => ?_)
              · exact absurd h439 (by decide)
              · refine j_iconst F.1 (1) dL_acts_442 (by decide) ?_
                refine j_goto F.1 447 dL_acts_443 (by decide) ?_
                exact j_zret F (Or.inr rfl) dL_acts_447 ⟨rfl, hA.up (by omega)⟩
          · rcases bound_cases (p := p) (n := n) (j := lowN y 12) hI (lowN_lt (by decide)) with e | e
            · obtain ⟨h11, he⟩ := e
              refine j_aload_n F.1 dL_acts_348 rfl ?_
              refine j_bipush F.1 (6) dL_acts_349 (by decide) ?_
              refine j_callV F (c_count hn4 hu) co_X5_count ml_L_13 im_X5_count se_X5_count in_X5 rc_X5_count rfl (by decide) (by decide) ⟨by decide, rfl⟩ rfl rfl (Nat.le_of_ble_eq_true rfl) dL_acts_351 (fun r u hr => ?_)
              obtain ⟨rfl, hu⟩ := hr
              refine j_tl ?_
              refine j_top (show S_count f n (nI ln) 6 = f 5 from rfl) ?_
              refine j_istore F.1 dL_acts_354 (by rw [hn]; decide) ?_
              refine j_aload_n F.1 dL_acts_356 rfl ?_
              refine j_iload_n F.1 dL_acts_357 rfl ?_
              refine j_bipush F.1 (12) dL_acts_358 (by decide) ?_
              refine j_callSi F (c_low (N := 12) (by decide) (by decide)) co_L_low ml_L_37 st_L_low in_L rc_L_low rfl (by decide) (by decide) rfl (Nat.le_of_ble_eq_true rfl) dL_acts_360 ?_
              refine j_callV F (c_bound hn4 hu) co_X5_bound ml_L_71 im_X5_bound se_X5_bound in_X5 rc_X5_bound rfl (by decide) (by decide) ⟨by decide, rfl⟩ rfl rfl (Nat.le_of_ble_eq_true rfl) dL_acts_363 (fun r u hr => ?_)
              rw [he] at hr
              obtain ⟨rfl, hu⟩ := hr
              refine j_tl ?_
              refine j_istore F.1 dL_acts_366 (by rw [hn]; decide) ?_
              refine j_iload F.1 dL_acts_368 rfl ?_
              refine j_if_ge F.1 399 dL_acts_370 (by decide) (fun h370 => ?_) (fun h370 => ?_)
              · exact absurd h370 (show ¬ (0 : Int32) ≤ -2000000001 by decide)
              · refine j_iload F.1 dL_acts_373 rfl ?_
                refine j_ldc F cn_L_59 dL_acts_375 ?_
                refine j_icmp_ne F.1 395 dL_acts_377 (by decide) (fun h377 => ?_) (fun h377 => ?_)
                · exact absurd rfl h377
                · refine j_iload_n F.1 dL_acts_380 rfl ?_
                  refine j_bipush F.1 (12) dL_acts_381 (by decide) ?_
                  refine j_callSi F (c_low (N := 12) (by decide) (by decide)) co_L_low ml_L_37 st_L_low in_L rc_L_low rfl (by decide) (by decide) rfl (Nat.le_of_ble_eq_true rfl) dL_acts_383 ?_
                  refine j_bipush F.1 (11) dL_acts_386 (by decide) ?_
                  refine j_icmp_ne F.1 395 dL_acts_388 (by decide) (fun h388 => ?_) (fun h388 => ?_)
                  · exact absurd (congrArg nI h11) h388
                  · refine j_iconst F.1 (1) dL_acts_391 (by decide) ?_
                    refine j_goto F.1 426 dL_acts_392 (by decide) ?_
                    exact j_zret F (Or.inr rfl) dL_acts_426 ⟨rfl, tx, ln, hl60, Or.inl hu⟩
            · obtain ⟨he, hg⟩ := e
              refine j_aload_n F.1 dL_acts_348 rfl ?_
              refine j_bipush F.1 (6) dL_acts_349 (by decide) ?_
              refine j_callV F (c_count hn4 hu) co_X5_count ml_L_13 im_X5_count se_X5_count in_X5 rc_X5_count rfl (by decide) (by decide) ⟨by decide, rfl⟩ rfl rfl (Nat.le_of_ble_eq_true rfl) dL_acts_351 (fun r u hr => ?_)
              obtain ⟨rfl, hu⟩ := hr
              refine j_tl ?_
              refine j_top (show S_count f n (nI ln) 6 = f 5 from rfl) ?_
              refine j_istore F.1 dL_acts_354 (by rw [hn]; decide) ?_
              refine j_aload_n F.1 dL_acts_356 rfl ?_
              refine j_iload_n F.1 dL_acts_357 rfl ?_
              refine j_bipush F.1 (12) dL_acts_358 (by decide) ?_
              refine j_callSi F (c_low (N := 12) (by decide) (by decide)) co_L_low ml_L_37 st_L_low in_L rc_L_low rfl (by decide) (by decide) rfl (Nat.le_of_ble_eq_true rfl) dL_acts_360 ?_
              refine j_callV F (c_bound hn4 hu) co_X5_bound ml_L_71 im_X5_bound se_X5_bound in_X5 rc_X5_bound rfl (by decide) (by decide) ⟨by decide, rfl⟩ rfl rfl (Nat.le_of_ble_eq_true rfl) dL_acts_363 (fun r u hr => ?_)
              rw [he] at hr
              obtain ⟨rfl, hu⟩ := hr
              refine j_tl ?_
              refine j_istore F.1 dL_acts_366 (by rw [hn]; decide) ?_
              refine j_iload F.1 dL_acts_368 rfl ?_
              refine j_if_ge F.1 399 dL_acts_370 (by decide) (fun h370 => ?_) (fun h370 => ?_)
              · refine j_iload F.1 dL_acts_399 rfl ?_
                refine j_iload F.1 dL_acts_401 rfl ?_
                refine j_icmp_ne F.1 425 dL_acts_403 (by decide) (fun h403 => ?_) (fun h403 => ?_)
                · exact absurd rfl h403
                · refine j_aload_n F.1 dL_acts_406 rfl ?_
                  refine j_bipush F.1 (6) dL_acts_407 (by decide) ?_
                  refine j_callV F (c_count (H_le hn4) hu) co_X5_count ml_L_13 im_X5_count se_X5_count in_X5 rc_X5_count rfl (by decide) (by decide) ⟨by decide, rfl⟩ rfl rfl (Nat.le_of_ble_eq_true rfl) dL_acts_409 (fun r u hr => ?_)
                  obtain ⟨rfl, hu⟩ := hr
                  refine j_tl ?_
                  refine j_top ((show S_count _ _ (nI ln) 6 = upd f 5 (nI (lowN y 12)) 5 from rfl).trans pk_us) ?_
                  refine j_iload_n F.1 dL_acts_412 rfl ?_
                  refine j_bipush F.1 (12) dL_acts_413 (by decide) ?_
                  refine j_callSi F (c_low (N := 12) (by decide) (by decide)) co_L_low ml_L_37 st_L_low in_L rc_L_low rfl (by decide) (by decide) rfl (Nat.le_of_ble_eq_true rfl) dL_acts_415 ?_
                  refine j_icmp_ne F.1 425 dL_acts_418 (by decide) (fun h418 => ?_) (fun h418 => ?_)
                  · exact absurd rfl h418
                  · refine j_iconst F.1 (1) dL_acts_421 (by decide) ?_
                    refine j_goto F.1 426 dL_acts_422 (by decide) ?_
                    exact j_zret F (Or.inr rfl) dL_acts_426 ⟨rfl, tx, ln, hl60, Or.inr ⟨_, hg.up (by omega), hu⟩⟩
              · exact absurd (Int32.not_lt.mp (bound_10 hI.1 hI.2.2.2.1).1) h370
        · rcases forget_cases (p := p) (n := n) (c := c) hI with e | e
          · obtain ⟨e, ee, he⟩ := e
            rcases ee with rfl | rfl
            · refine j_aload_n F.1 dL_acts_254 rfl ?_
              refine j_iconst F.1 (1) dL_acts_255 (by decide) ?_
              refine j_callV F (c_count hn4 hu) co_X5_count ml_L_13 im_X5_count se_X5_count in_X5 rc_X5_count rfl (by decide) (by decide) ⟨by decide, rfl⟩ rfl rfl (Nat.le_of_ble_eq_true rfl) dL_acts_256 (fun r u hr => ?_)
              obtain ⟨rfl, hu⟩ := hr
              refine j_tl ?_
              refine j_top ((show S_count f n (nI ln) 1 = remI f 10 from rfl).trans (remI_cnt (h01 hI.1) 10 (by decide))) ?_
              refine j_istore F.1 dL_acts_259 (by rw [hn]; decide) ?_
              refine j_aload_n F.1 dL_acts_261 rfl ?_
              refine j_iconst F.1 (5) dL_acts_262 (by decide) ?_
              refine j_callV F (c_count hn4 hu) co_X5_count ml_L_13 im_X5_count se_X5_count in_X5 rc_X5_count rfl (by decide) (by decide) ⟨by decide, rfl⟩ rfl rfl (Nat.le_of_ble_eq_true rfl) dL_acts_263 (fun r u hr => ?_)
              obtain ⟨rfl, hu⟩ := hr
              refine j_tl ?_
              refine j_top (show S_count f n (nI ln) 5 = f 4 from rfl) ?_
              refine j_istore F.1 dL_acts_266 (by rw [hn]; decide) ?_
              refine j_aload_n F.1 dL_acts_268 rfl ?_
              refine j_iload F.1 dL_acts_269 rfl ?_
              refine j_callV F (c_forget hn4 hu) co_X5_forget ml_L_68 im_X5_forget se_X5_forget in_X5 rc_X5_forget rfl (by decide) (by decide) ⟨by decide, rfl⟩ rfl rfl (Nat.le_of_ble_eq_true rfl) dL_acts_271 (fun r u hr => ?_)
              rw [he] at hr
              obtain ⟨rfl, hu⟩ := hr
              refine j_tl ?_
              refine j_istore F.1 dL_acts_274 (by rw [hn]; decide) ?_
              refine j_iload F.1 dL_acts_276 rfl ?_
              refine j_if_ge F.1 303 dL_acts_278 (by decide) (fun h278 => ?_) (fun h278 => ?_)
              · exact absurd h278 (show ¬ (0 : Int32) ≤ -2000000001 by decide)
              · refine j_iload F.1 dL_acts_281 rfl ?_
                refine j_ldc F cn_L_59 dL_acts_283 ?_
                refine j_icmp_eq F.1 295 dL_acts_285 (by decide) (fun h285 => ?_) (fun h285 => ?_)
                · refine j_iconst F.1 (1) dL_acts_295 (by decide) ?_
                  refine j_goto F.1 341 dL_acts_296 (by decide) ?_
                  exact j_zret F (Or.inr rfl) dL_acts_341 ⟨rfl, tx, ln, hl60, Or.inl hu⟩
                · exact absurd rfl h285
            · refine j_aload_n F.1 dL_acts_254 rfl ?_
              refine j_iconst F.1 (1) dL_acts_255 (by decide) ?_
              refine j_callV F (c_count hn4 hu) co_X5_count ml_L_13 im_X5_count se_X5_count in_X5 rc_X5_count rfl (by decide) (by decide) ⟨by decide, rfl⟩ rfl rfl (Nat.le_of_ble_eq_true rfl) dL_acts_256 (fun r u hr => ?_)
              obtain ⟨rfl, hu⟩ := hr
              refine j_tl ?_
              refine j_top ((show S_count f n (nI ln) 1 = remI f 10 from rfl).trans (remI_cnt (h01 hI.1) 10 (by decide))) ?_
              refine j_istore F.1 dL_acts_259 (by rw [hn]; decide) ?_
              refine j_aload_n F.1 dL_acts_261 rfl ?_
              refine j_iconst F.1 (5) dL_acts_262 (by decide) ?_
              refine j_callV F (c_count hn4 hu) co_X5_count ml_L_13 im_X5_count se_X5_count in_X5 rc_X5_count rfl (by decide) (by decide) ⟨by decide, rfl⟩ rfl rfl (Nat.le_of_ble_eq_true rfl) dL_acts_263 (fun r u hr => ?_)
              obtain ⟨rfl, hu⟩ := hr
              refine j_tl ?_
              refine j_top (show S_count f n (nI ln) 5 = f 4 from rfl) ?_
              refine j_istore F.1 dL_acts_266 (by rw [hn]; decide) ?_
              refine j_aload_n F.1 dL_acts_268 rfl ?_
              refine j_iload F.1 dL_acts_269 rfl ?_
              refine j_callV F (c_forget hn4 hu) co_X5_forget ml_L_68 im_X5_forget se_X5_forget in_X5 rc_X5_forget rfl (by decide) (by decide) ⟨by decide, rfl⟩ rfl rfl (Nat.le_of_ble_eq_true rfl) dL_acts_271 (fun r u hr => ?_)
              rw [he] at hr
              obtain ⟨rfl, hu⟩ := hr
              refine j_tl ?_
              refine j_istore F.1 dL_acts_274 (by rw [hn]; decide) ?_
              refine j_iload F.1 dL_acts_276 rfl ?_
              refine j_if_ge F.1 303 dL_acts_278 (by decide) (fun h278 => ?_) (fun h278 => ?_)
              · exact absurd h278 (show ¬ (0 : Int32) ≤ -2000000002 by decide)
              · refine j_iload F.1 dL_acts_281 rfl ?_
                refine j_ldc F cn_L_59 dL_acts_283 ?_
                refine j_icmp_eq F.1 295 dL_acts_285 (by decide) (fun h285 => ?_) (fun h285 => ?_)
                · refine j_iconst F.1 (1) dL_acts_295 (by decide) ?_
                  refine j_goto F.1 341 dL_acts_296 (by decide) ?_
                  exact j_zret F (Or.inr rfl) dL_acts_341 ⟨rfl, tx, ln, hl60, Or.inl hu⟩
                · refine j_iload F.1 dL_acts_288 rfl ?_
                  refine j_ldc F cn_L_53 dL_acts_290 ?_
                  refine j_icmp_ne F.1 299 dL_acts_292 (by decide) (fun h292 => ?_) (fun h292 => ?_)
                  · exact absurd rfl h292
                  · refine j_iconst F.1 (1) dL_acts_295 (by decide) ?_
                    refine j_goto F.1 341 dL_acts_296 (by decide) ?_
                    exact j_zret F (Or.inr rfl) dL_acts_341 ⟨rfl, tx, ln, hl60, Or.inl hu⟩
          · obtain ⟨m, i, g, he, hg, hi, rfl, hm10, hm, h4, h6⟩ := e
            refine j_aload_n F.1 dL_acts_254 rfl ?_
            refine j_iconst F.1 (1) dL_acts_255 (by decide) ?_
            refine j_callV F (c_count hn4 hu) co_X5_count ml_L_13 im_X5_count se_X5_count in_X5 rc_X5_count rfl (by decide) (by decide) ⟨by decide, rfl⟩ rfl rfl (Nat.le_of_ble_eq_true rfl) dL_acts_256 (fun r u hr => ?_)
            obtain ⟨rfl, hu⟩ := hr
            refine j_tl ?_
            refine j_top ((show S_count f n (nI ln) 1 = remI f 10 from rfl).trans (remI_cnt (h01 hI.1) 10 (by decide))) ?_
            refine j_istore F.1 dL_acts_259 (by rw [hn]; decide) ?_
            refine j_aload_n F.1 dL_acts_261 rfl ?_
            refine j_iconst F.1 (5) dL_acts_262 (by decide) ?_
            refine j_callV F (c_count hn4 hu) co_X5_count ml_L_13 im_X5_count se_X5_count in_X5 rc_X5_count rfl (by decide) (by decide) ⟨by decide, rfl⟩ rfl rfl (Nat.le_of_ble_eq_true rfl) dL_acts_263 (fun r u hr => ?_)
            obtain ⟨rfl, hu⟩ := hr
            refine j_tl ?_
            refine j_top (show S_count f n (nI ln) 5 = f 4 from rfl) ?_
            refine j_istore F.1 dL_acts_266 (by rw [hn]; decide) ?_
            refine j_aload_n F.1 dL_acts_268 rfl ?_
            refine j_iload F.1 dL_acts_269 rfl ?_
            refine j_callV F (c_forget hn4 hu) co_X5_forget ml_L_68 im_X5_forget se_X5_forget in_X5 rc_X5_forget rfl (by decide) (by decide) ⟨by decide, rfl⟩ rfl rfl (Nat.le_of_ble_eq_true rfl) dL_acts_271 (fun r u hr => ?_)
            rw [he] at hr
            obtain ⟨rfl, hu⟩ := hr
            refine j_tl ?_
            refine j_istore F.1 dL_acts_274 (by rw [hn]; decide) ?_
            refine j_iload F.1 dL_acts_276 rfl ?_
            refine j_if_ge F.1 303 dL_acts_278 (by decide) (fun h278 => ?_) (fun h278 => ?_)
            · refine j_iload F.1 dL_acts_303 rfl ?_
              refine j_iload F.1 dL_acts_305 rfl ?_
              refine j_iconst F.1 (1) dL_acts_307 (by decide) ?_
              refine j_isub F.1 dL_acts_308 ?_
              refine j_icmp_ne F.1 340 dL_acts_309 (by decide) (fun h309 => ?_) (fun h309 => ?_)
              · exact absurd hm.symm h309
              · refine j_aload_n F.1 dL_acts_312 rfl ?_
                refine j_iconst F.1 (5) dL_acts_313 (by decide) ?_
                refine j_callV F (c_count (H_le hn4) hu) co_X5_count ml_L_13 im_X5_count se_X5_count in_X5 rc_X5_count rfl (by decide) (by decide) ⟨by decide, rfl⟩ rfl rfl (Nat.le_of_ble_eq_true rfl) dL_acts_314 (fun r u hr => ?_)
                obtain ⟨rfl, hu⟩ := hr
                refine j_tl ?_
                refine j_top ((show S_count _ _ (nI ln) 5 = g 4 from rfl).trans h4) ?_
                refine j_iload F.1 dL_acts_317 rfl ?_
                refine j_iconst F.1 (1) dL_acts_319 (by decide) ?_
                refine j_iadd F.1 dL_acts_320 ?_
                refine j_icmp_ne F.1 340 dL_acts_321 (by decide) (fun h321 => ?_) (fun h321 => ?_)
                · exact absurd rfl h321
                · refine j_aload_n F.1 dL_acts_324 rfl ?_
                  refine j_iload F.1 dL_acts_325 rfl ?_
                  refine j_iconst F.1 (0) dL_acts_327 (by decide) ?_
                  refine j_callV F (c_rem (H_le hn4) hu hg.1) co_X5_rememberedOf ml_L_23 im_X5_rememberedOf se_X5_rememberedOf in_X5 rc_X5_rememberedOf rfl (by decide) (by decide) ⟨by decide, rfl⟩ rfl rfl (Nat.le_of_ble_eq_true rfl) dL_acts_328 (fun r u hr => ?_)
                  obtain ⟨rfl, hu⟩ := hr
                  refine j_tl ?_
                  refine j_top (rv_0 (w := 0) hi (by decide) h6) ?_
                  refine j_ldc F cn_L_31 dL_acts_331 ?_
                  refine j_icmp_ne F.1 340 dL_acts_333 (by decide) (fun h333 => ?_) (fun h333 => ?_)
                  · exact absurd rfl h333
                  · refine j_iconst F.1 (1) dL_acts_336 (by decide) ?_
                    refine j_goto F.1 341 dL_acts_337 (by decide) ?_
                    exact j_zret F (Or.inr rfl) dL_acts_341 ⟨rfl, tx, ln, hl60, Or.inr ⟨_, hg.up (by omega), hu⟩⟩
            · exact absurd (nI_pos' (n := m) (by omega)) h278
      · rcases ask_cases (p := p) (n := n) (c := c) hI (by omega) with e | e
        · obtain ⟨e, ee, he, hfe⟩ := e
          rcases ee with rfl | rfl
          · refine j_aload_n F.1 dL_acts_186 rfl ?_
            refine j_iload F.1 dL_acts_187 rfl ?_
            refine j_callV F (c_fresh hn4 hu hI.1) co_X5_fresh ml_L_32 im_X5_fresh se_X5_fresh in_X5 rc_X5_fresh rfl (by decide) (by decide) ⟨by decide, rfl⟩ rfl rfl (Nat.le_of_ble_eq_true rfl) dL_acts_189 (fun r u hr => ?_)
            obtain ⟨rfl, hu⟩ := hr
            refine j_tl ?_
            refine j_top (hfe) ?_
            refine j_istore F.1 dL_acts_192 (by rw [hn]; decide) ?_
            refine j_aload_n F.1 dL_acts_194 rfl ?_
            refine j_iload F.1 dL_acts_195 rfl ?_
            refine j_callV F (c_ask hn4 hu hI.1) co_X5_ask ml_L_64 im_X5_ask se_X5_ask in_X5 rc_X5_ask rfl (by decide) (by decide) ⟨by decide, rfl⟩ rfl rfl (Nat.le_of_ble_eq_true rfl) dL_acts_197 (fun r u hr => ?_)
            rw [he] at hr
            obtain ⟨rfl, hu⟩ := hr
            refine j_tl ?_
            refine j_istore F.1 dL_acts_200 (by rw [hn]; decide) ?_
            refine j_iload F.1 dL_acts_202 rfl ?_
            refine j_iload F.1 dL_acts_204 rfl ?_
            refine j_ldc F cn_L_35 dL_acts_206 ?_
            refine j_icmp_ne F.1 216 dL_acts_208 (by decide) (fun h208 => ?_) (fun h208 => ?_)
            · refine j_iload F.1 dL_acts_216 rfl ?_
              refine j_icmp_ne F.1 246 dL_acts_218 (by decide) (fun h218 => ?_) (fun h218 => ?_)
              · exact absurd rfl h218
              · refine j_iload F.1 dL_acts_221 rfl ?_
                refine j_ldc F cn_L_67 dL_acts_223 ?_
                refine j_icmp_lt F.1 242 dL_acts_225 (by decide) (fun h225 => ?_) (fun h225 => ?_)
                · refine j_iconst F.1 (1) dL_acts_242 (by decide) ?_
                  refine j_goto F.1 247 dL_acts_243 (by decide) ?_
                  exact j_zret F (Or.inr rfl) dL_acts_247 ⟨rfl, tx, ln, hl60, Or.inl hu⟩
                · exact absurd (show (-2000000001 : Int32) < -1000000000 by decide) h225
            · exact absurd (Classical.not_not.mp (fun z => z h208)) (by decide)
          · refine j_aload_n F.1 dL_acts_186 rfl ?_
            refine j_iload F.1 dL_acts_187 rfl ?_
            refine j_callV F (c_fresh hn4 hu hI.1) co_X5_fresh ml_L_32 im_X5_fresh se_X5_fresh in_X5 rc_X5_fresh rfl (by decide) (by decide) ⟨by decide, rfl⟩ rfl rfl (Nat.le_of_ble_eq_true rfl) dL_acts_189 (fun r u hr => ?_)
            obtain ⟨rfl, hu⟩ := hr
            refine j_tl ?_
            refine j_top (hfe) ?_
            refine j_istore F.1 dL_acts_192 (by rw [hn]; decide) ?_
            refine j_aload_n F.1 dL_acts_194 rfl ?_
            refine j_iload F.1 dL_acts_195 rfl ?_
            refine j_callV F (c_ask hn4 hu hI.1) co_X5_ask ml_L_64 im_X5_ask se_X5_ask in_X5 rc_X5_ask rfl (by decide) (by decide) ⟨by decide, rfl⟩ rfl rfl (Nat.le_of_ble_eq_true rfl) dL_acts_197 (fun r u hr => ?_)
            rw [he] at hr
            obtain ⟨rfl, hu⟩ := hr
            refine j_tl ?_
            refine j_istore F.1 dL_acts_200 (by rw [hn]; decide) ?_
            refine j_iload F.1 dL_acts_202 rfl ?_
            refine j_iload F.1 dL_acts_204 rfl ?_
            refine j_ldc F cn_L_35 dL_acts_206 ?_
            refine j_icmp_ne F.1 216 dL_acts_208 (by decide) (fun h208 => ?_) (fun h208 => ?_)
            · refine j_iload F.1 dL_acts_216 rfl ?_
              refine j_icmp_ne F.1 246 dL_acts_218 (by decide) (fun h218 => ?_) (fun h218 => ?_)
              · exact absurd rfl h218
              · refine j_iload F.1 dL_acts_221 rfl ?_
                refine j_ldc F cn_L_67 dL_acts_223 ?_
                refine j_icmp_lt F.1 242 dL_acts_225 (by decide) (fun h225 => ?_) (fun h225 => ?_)
                · refine j_iconst F.1 (1) dL_acts_242 (by decide) ?_
                  refine j_goto F.1 247 dL_acts_243 (by decide) ?_
                  exact j_zret F (Or.inr rfl) dL_acts_247 ⟨rfl, tx, ln, hl60, Or.inl hu⟩
                · exact absurd (show (-2000000002 : Int32) < -1000000000 by decide) h225
            · exact absurd (Classical.not_not.mp (fun z => z h208)) (by decide)
        · obtain ⟨a, g, he, hg, hf, hge⟩ := e
          rcases hf with ⟨hfe, hae⟩ | ⟨hfe, hae⟩
          · refine j_aload_n F.1 dL_acts_186 rfl ?_
            refine j_iload F.1 dL_acts_187 rfl ?_
            refine j_callV F (c_fresh hn4 hu hI.1) co_X5_fresh ml_L_32 im_X5_fresh se_X5_fresh in_X5 rc_X5_fresh rfl (by decide) (by decide) ⟨by decide, rfl⟩ rfl rfl (Nat.le_of_ble_eq_true rfl) dL_acts_189 (fun r u hr => ?_)
            obtain ⟨rfl, hu⟩ := hr
            refine j_tl ?_
            refine j_istore F.1 dL_acts_192 (by rw [hn]; decide) ?_
            refine j_aload_n F.1 dL_acts_194 rfl ?_
            refine j_iload F.1 dL_acts_195 rfl ?_
            refine j_callV F (c_ask hn4 hu hI.1) co_X5_ask ml_L_64 im_X5_ask se_X5_ask in_X5 rc_X5_ask rfl (by decide) (by decide) ⟨by decide, rfl⟩ rfl rfl (Nat.le_of_ble_eq_true rfl) dL_acts_197 (fun r u hr => ?_)
            rw [he] at hr
            obtain ⟨rfl, hu⟩ := hr
            refine j_tl ?_
            refine j_istore F.1 dL_acts_200 (by rw [hn]; decide) ?_
            refine j_iload F.1 dL_acts_202 rfl ?_
            refine j_iload F.1 dL_acts_204 rfl ?_
            refine j_ldc F cn_L_35 dL_acts_206 ?_
            refine j_icmp_ne F.1 216 dL_acts_208 (by decide) (fun h208 => ?_) (fun h208 => ?_)
            · exact absurd hfe h208
            · refine j_ldc F cn_L_36 dL_acts_211 ?_
              refine j_goto F.1 218 dL_acts_213 (by decide) ?_
              refine j_icmp_ne F.1 246 dL_acts_218 (by decide) (fun h218 => ?_) (fun h218 => ?_)
              · exact absurd hae h218
              · refine j_iload F.1 dL_acts_221 rfl ?_
                refine j_ldc F cn_L_67 dL_acts_223 ?_
                refine j_icmp_lt F.1 242 dL_acts_225 (by decide) (fun h225 => ?_) (fun h225 => ?_)
                · refine j_iconst F.1 (1) dL_acts_242 (by decide) ?_
                  refine j_goto F.1 247 dL_acts_243 (by decide) ?_
                  exact j_zret F (Or.inr rfl) dL_acts_247 ⟨rfl, tx, ln, hl60, Or.inr ⟨_, hg.up (by omega), hu⟩⟩
                · refine j_aload_n F.1 dL_acts_228 rfl ?_
                  refine j_iconst F.1 (1) dL_acts_229 (by decide) ?_
                  refine j_callV F (c_count (H_le hn4) hu) co_X5_count ml_L_13 im_X5_count se_X5_count in_X5 rc_X5_count rfl (by decide) (by decide) ⟨by decide, rfl⟩ rfl rfl (Nat.le_of_ble_eq_true rfl) dL_acts_230 (fun r u hr => ?_)
                  obtain ⟨rfl, hu⟩ := hr
                  refine j_tl ?_
                  refine j_top (show S_count _ _ (nI ln) 1 = remI g 10 from rfl) ?_
                  refine j_aload_n F.1 dL_acts_233 rfl ?_
                  refine j_bipush F.1 (6) dL_acts_234 (by decide) ?_
                  refine j_callV F (c_count (H_le hn4) hu) co_X5_count ml_L_13 im_X5_count se_X5_count in_X5 rc_X5_count rfl (by decide) (by decide) ⟨by decide, rfl⟩ rfl rfl (Nat.le_of_ble_eq_true rfl) dL_acts_236 (fun r u hr => ?_)
                  obtain ⟨rfl, hu⟩ := hr
                  refine j_tl ?_
                  refine j_top (show S_count _ _ (nI ln) 6 = g 5 from rfl) ?_
                  refine j_icmp_gt F.1 246 dL_acts_239 (by decide) (fun h239 => ?_) (fun h239 => ?_)
                  · exact absurd h239 hge
                  · refine j_iconst F.1 (1) dL_acts_242 (by decide) ?_
                    refine j_goto F.1 247 dL_acts_243 (by decide) ?_
                    exact j_zret F (Or.inr rfl) dL_acts_247 ⟨rfl, tx, ln, hl60, Or.inr ⟨_, hg.up (by omega), hu⟩⟩
          · refine j_aload_n F.1 dL_acts_186 rfl ?_
            refine j_iload F.1 dL_acts_187 rfl ?_
            refine j_callV F (c_fresh hn4 hu hI.1) co_X5_fresh ml_L_32 im_X5_fresh se_X5_fresh in_X5 rc_X5_fresh rfl (by decide) (by decide) ⟨by decide, rfl⟩ rfl rfl (Nat.le_of_ble_eq_true rfl) dL_acts_189 (fun r u hr => ?_)
            obtain ⟨rfl, hu⟩ := hr
            refine j_tl ?_
            refine j_istore F.1 dL_acts_192 (by rw [hn]; decide) ?_
            refine j_aload_n F.1 dL_acts_194 rfl ?_
            refine j_iload F.1 dL_acts_195 rfl ?_
            refine j_callV F (c_ask hn4 hu hI.1) co_X5_ask ml_L_64 im_X5_ask se_X5_ask in_X5 rc_X5_ask rfl (by decide) (by decide) ⟨by decide, rfl⟩ rfl rfl (Nat.le_of_ble_eq_true rfl) dL_acts_197 (fun r u hr => ?_)
            rw [he] at hr
            obtain ⟨rfl, hu⟩ := hr
            refine j_tl ?_
            refine j_istore F.1 dL_acts_200 (by rw [hn]; decide) ?_
            refine j_iload F.1 dL_acts_202 rfl ?_
            refine j_iload F.1 dL_acts_204 rfl ?_
            refine j_ldc F cn_L_35 dL_acts_206 ?_
            refine j_icmp_ne F.1 216 dL_acts_208 (by decide) (fun h208 => ?_) (fun h208 => ?_)
            · refine j_iload F.1 dL_acts_216 rfl ?_
              refine j_icmp_ne F.1 246 dL_acts_218 (by decide) (fun h218 => ?_) (fun h218 => ?_)
              · exact absurd hae h218
              · refine j_iload F.1 dL_acts_221 rfl ?_
                refine j_ldc F cn_L_67 dL_acts_223 ?_
                refine j_icmp_lt F.1 242 dL_acts_225 (by decide) (fun h225 => ?_) (fun h225 => ?_)
                · refine j_iconst F.1 (1) dL_acts_242 (by decide) ?_
                  refine j_goto F.1 247 dL_acts_243 (by decide) ?_
                  exact j_zret F (Or.inr rfl) dL_acts_247 ⟨rfl, tx, ln, hl60, Or.inr ⟨_, hg.up (by omega), hu⟩⟩
                · refine j_aload_n F.1 dL_acts_228 rfl ?_
                  refine j_iconst F.1 (1) dL_acts_229 (by decide) ?_
                  refine j_callV F (c_count (H_le hn4) hu) co_X5_count ml_L_13 im_X5_count se_X5_count in_X5 rc_X5_count rfl (by decide) (by decide) ⟨by decide, rfl⟩ rfl rfl (Nat.le_of_ble_eq_true rfl) dL_acts_230 (fun r u hr => ?_)
                  obtain ⟨rfl, hu⟩ := hr
                  refine j_tl ?_
                  refine j_top (show S_count _ _ (nI ln) 1 = remI g 10 from rfl) ?_
                  refine j_aload_n F.1 dL_acts_233 rfl ?_
                  refine j_bipush F.1 (6) dL_acts_234 (by decide) ?_
                  refine j_callV F (c_count (H_le hn4) hu) co_X5_count ml_L_13 im_X5_count se_X5_count in_X5 rc_X5_count rfl (by decide) (by decide) ⟨by decide, rfl⟩ rfl rfl (Nat.le_of_ble_eq_true rfl) dL_acts_236 (fun r u hr => ?_)
                  obtain ⟨rfl, hu⟩ := hr
                  refine j_tl ?_
                  refine j_top (show S_count _ _ (nI ln) 6 = g 5 from rfl) ?_
                  refine j_icmp_gt F.1 246 dL_acts_239 (by decide) (fun h239 => ?_) (fun h239 => ?_)
                  · exact absurd h239 hge
                  · refine j_iconst F.1 (1) dL_acts_242 (by decide) ?_
                    refine j_goto F.1 247 dL_acts_243 (by decide) ?_
                    exact j_zret F (Or.inr rfl) dL_acts_247 ⟨rfl, tx, ln, hl60, Or.inr ⟨_, hg.up (by omega), hu⟩⟩
            · exact absurd h208 hfe
    · refine j_iload_n F.1 dL_acts_78 rfl ?_
      refine j_bipush F.1 (6) dL_acts_79 (by decide) ?_
      refine j_callSi F (c_low (N := 6) (by decide) (by decide)) co_L_low ml_L_37 st_L_low in_L rc_L_low rfl (by decide) (by decide) rfl (Nat.le_of_ble_eq_true rfl) dL_acts_81 ?_
      refine j_istore F.1 dL_acts_84 (by rw [hn]; decide) ?_
      refine j_aload_n F.1 dL_acts_86 rfl ?_
      refine j_iload F.1 dL_acts_87 rfl ?_
      refine j_iload F.1 dL_acts_89 rfl ?_
      refine j_iload_n F.1 dL_acts_91 rfl ?_
      refine j_iconst F.1 (3) dL_acts_92 (by decide) ?_
      refine j_ishr F.1 dL_acts_93 ?_
      refine j_bipush F.1 (10) dL_acts_94 (by decide) ?_
      refine j_callSi F (c_low (N := 10) (by decide) (by decide)) co_L_low ml_L_37 st_L_low in_L rc_L_low rfl (by decide) (by decide) rfl (Nat.le_of_ble_eq_true rfl) dL_acts_96 ?_
      refine j_iload_n F.1 dL_acts_99 rfl ?_
      refine j_bipush F.1 (7) dL_acts_100 (by decide) ?_
      refine j_ishr F.1 dL_acts_102 ?_
      refine j_bipush F.1 (10) dL_acts_103 (by decide) ?_
      refine j_callSi F (c_low (N := 10) (by decide) (by decide)) co_L_low ml_L_37 st_L_low in_L rc_L_low rfl (by decide) (by decide) rfl (Nat.le_of_ble_eq_true rfl) dL_acts_105 ?_
      refine j_iload F.1 dL_acts_108 rfl ?_
      refine j_iconst F.1 (4) dL_acts_110 (by decide) ?_
      refine j_icmp_ne F.1 126 dL_acts_111 (by decide) (fun h111 => ?_) (fun h111 => ?_)
      · refine j_iload_n F.1 dL_acts_126 rfl ?_
        refine j_bipush F.1 (11) dL_acts_127 (by decide) ?_
        refine j_ishr F.1 dL_acts_129 ?_
        refine j_bipush F.1 (16) dL_acts_130 (by decide) ?_
        refine j_callSi F (c_low (N := 16) (by decide) (by decide)) co_L_low ml_L_37 st_L_low in_L rc_L_low rfl (by decide) (by decide) rfl (Nat.le_of_ble_eq_true rfl) dL_acts_132 ?_
        refine j_bipush F.1 (15) dL_acts_135 (by decide) ?_
        refine j_idiv F.1 dL_acts_137 (by decide) ?_
        rcases formula_cases (p := p) (n := n) (c := c) (k := nI (lowN y 6)) (x := nI (lowN (y >>> (3 &&& 31)) 10)) (y := nI (lowN (y >>> (7 &&& 31)) 10)) (z := nI (lowN (y >>> (11 &&& 31)) 16) / 15) hI (by omega) with e | e
        · have he := e
          refine j_callV F (c_formula hn4 hu) co_X5_formula ml_L_60 im_X5_formula se_X5_formula in_X5 rc_X5_formula rfl (by decide) (by decide) ⟨by decide, rfl⟩ rfl rfl (Nat.le_of_ble_eq_true rfl) dL_acts_138 (fun r u hr => ?_)
          rw [he] at hr
          obtain ⟨rfl, hu⟩ := hr
          refine j_tl ?_
          refine j_istore F.1 dL_acts_141 (by rw [hn]; decide) ?_
          refine j_iload F.1 dL_acts_143 rfl ?_
          refine j_ldc F cn_L_59 dL_acts_145 ?_
          refine j_icmp_eq F.1 174 dL_acts_147 (by decide) (fun h147 => ?_) (fun h147 => ?_)
          · refine j_iconst F.1 (1) dL_acts_174 (by decide) ?_
            refine j_goto F.1 179 dL_acts_175 (by decide) ?_
            exact j_zret F (Or.inr rfl) dL_acts_179 ⟨rfl, tx, ln, hl60, Or.inl hu⟩
          · exact absurd rfl h147
        · obtain ⟨i, g, hi, rfl, he, hg, h0⟩ := e
          refine j_callV F (c_formula hn4 hu) co_X5_formula ml_L_60 im_X5_formula se_X5_formula in_X5 rc_X5_formula rfl (by decide) (by decide) ⟨by decide, rfl⟩ rfl rfl (Nat.le_of_ble_eq_true rfl) dL_acts_138 (fun r u hr => ?_)
          rw [he] at hr
          obtain ⟨rfl, hu⟩ := hr
          refine j_tl ?_
          refine j_istore F.1 dL_acts_141 (by rw [hn]; decide) ?_
          refine j_iload F.1 dL_acts_143 rfl ?_
          refine j_ldc F cn_L_59 dL_acts_145 ?_
          refine j_icmp_eq F.1 174 dL_acts_147 (by decide) (fun h147 => ?_) (fun h147 => ?_)
          · refine j_iconst F.1 (1) dL_acts_174 (by decide) ?_
            refine j_goto F.1 179 dL_acts_175 (by decide) ?_
            exact j_zret F (Or.inr rfl) dL_acts_179 ⟨rfl, tx, ln, hl60, Or.inr ⟨_, hg.up (by omega), hu⟩⟩
          · refine j_iload F.1 dL_acts_150 rfl ?_
            refine j_aload_n F.1 dL_acts_152 rfl ?_
            refine j_iconst F.1 (0) dL_acts_153 (by decide) ?_
            refine j_callV F (c_count (H_le hn4) hu) co_X5_count ml_L_13 im_X5_count se_X5_count in_X5 rc_X5_count rfl (by decide) (by decide) ⟨by decide, rfl⟩ rfl rfl (Nat.le_of_ble_eq_true rfl) dL_acts_154 (fun r u hr => ?_)
            obtain ⟨rfl, hu⟩ := hr
            refine j_tl ?_
            refine j_top (show S_count _ _ (nI ln) 0 = g 0 from rfl) ?_
            refine j_icmp_ne F.1 178 dL_acts_157 (by decide) (fun h157 => ?_) (fun h157 => ?_)
            · exact absurd rfl h157
            · refine j_aload_n F.1 dL_acts_160 rfl ?_
              refine j_iload F.1 dL_acts_161 rfl ?_
              refine j_iconst F.1 (0) dL_acts_163 (by decide) ?_
              refine j_callV F (c_cellOf (H_le hn4) hu) co_X5_cellOf ml_L_19 im_X5_cellOf se_X5_cellOf in_X5 rc_X5_cellOf rfl (by decide) (by decide) ⟨by decide, rfl⟩ rfl rfl (Nat.le_of_ble_eq_true rfl) dL_acts_164 (fun r u hr => ?_)
              obtain ⟨rfl, hu⟩ := hr
              refine j_tl ?_
              refine j_top ((ceo_0 hi).trans h0) ?_
              refine j_iload F.1 dL_acts_167 rfl ?_
              refine j_iconst F.1 (1) dL_acts_169 (by decide) ?_
              refine j_iadd F.1 dL_acts_170 ?_
              refine j_icmp_ne F.1 178 dL_acts_171 (by decide) (fun h171 => ?_) (fun h171 => ?_)
              · exact absurd rfl h171
              · refine j_iconst F.1 (1) dL_acts_174 (by decide) ?_
                refine j_goto F.1 179 dL_acts_175 (by decide) ?_
                exact j_zret F (Or.inr rfl) dL_acts_179 ⟨rfl, tx, ln, hl60, Or.inr ⟨_, hg.up (by omega), hu⟩⟩
      · refine j_iload_n F.1 dL_acts_114 rfl ?_
        refine j_bipush F.1 (11) dL_acts_115 (by decide) ?_
        refine j_ishr F.1 dL_acts_117 ?_
        refine j_bipush F.1 (10) dL_acts_118 (by decide) ?_
        refine j_callSi F (c_low (N := 10) (by decide) (by decide)) co_L_low ml_L_37 st_L_low in_L rc_L_low rfl (by decide) (by decide) rfl (Nat.le_of_ble_eq_true rfl) dL_acts_120 ?_
        refine j_goto F.1 138 dL_acts_123 (by decide) ?_
        rcases formula_cases (p := p) (n := n) (c := c) (k := nI (lowN y 6)) (x := nI (lowN (y >>> (3 &&& 31)) 10)) (y := nI (lowN (y >>> (7 &&& 31)) 10)) (z := nI (lowN (y >>> (11 &&& 31)) 10)) hI (by omega) with e | e
        · have he := e
          refine j_callV F (c_formula hn4 hu) co_X5_formula ml_L_60 im_X5_formula se_X5_formula in_X5 rc_X5_formula rfl (by decide) (by decide) ⟨by decide, rfl⟩ rfl rfl (Nat.le_of_ble_eq_true rfl) dL_acts_138 (fun r u hr => ?_)
          rw [he] at hr
          obtain ⟨rfl, hu⟩ := hr
          refine j_tl ?_
          refine j_istore F.1 dL_acts_141 (by rw [hn]; decide) ?_
          refine j_iload F.1 dL_acts_143 rfl ?_
          refine j_ldc F cn_L_59 dL_acts_145 ?_
          refine j_icmp_eq F.1 174 dL_acts_147 (by decide) (fun h147 => ?_) (fun h147 => ?_)
          · refine j_iconst F.1 (1) dL_acts_174 (by decide) ?_
            refine j_goto F.1 179 dL_acts_175 (by decide) ?_
            exact j_zret F (Or.inr rfl) dL_acts_179 ⟨rfl, tx, ln, hl60, Or.inl hu⟩
          · exact absurd rfl h147
        · obtain ⟨i, g, hi, rfl, he, hg, h0⟩ := e
          refine j_callV F (c_formula hn4 hu) co_X5_formula ml_L_60 im_X5_formula se_X5_formula in_X5 rc_X5_formula rfl (by decide) (by decide) ⟨by decide, rfl⟩ rfl rfl (Nat.le_of_ble_eq_true rfl) dL_acts_138 (fun r u hr => ?_)
          rw [he] at hr
          obtain ⟨rfl, hu⟩ := hr
          refine j_tl ?_
          refine j_istore F.1 dL_acts_141 (by rw [hn]; decide) ?_
          refine j_iload F.1 dL_acts_143 rfl ?_
          refine j_ldc F cn_L_59 dL_acts_145 ?_
          refine j_icmp_eq F.1 174 dL_acts_147 (by decide) (fun h147 => ?_) (fun h147 => ?_)
          · refine j_iconst F.1 (1) dL_acts_174 (by decide) ?_
            refine j_goto F.1 179 dL_acts_175 (by decide) ?_
            exact j_zret F (Or.inr rfl) dL_acts_179 ⟨rfl, tx, ln, hl60, Or.inr ⟨_, hg.up (by omega), hu⟩⟩
          · refine j_iload F.1 dL_acts_150 rfl ?_
            refine j_aload_n F.1 dL_acts_152 rfl ?_
            refine j_iconst F.1 (0) dL_acts_153 (by decide) ?_
            refine j_callV F (c_count (H_le hn4) hu) co_X5_count ml_L_13 im_X5_count se_X5_count in_X5 rc_X5_count rfl (by decide) (by decide) ⟨by decide, rfl⟩ rfl rfl (Nat.le_of_ble_eq_true rfl) dL_acts_154 (fun r u hr => ?_)
            obtain ⟨rfl, hu⟩ := hr
            refine j_tl ?_
            refine j_top (show S_count _ _ (nI ln) 0 = g 0 from rfl) ?_
            refine j_icmp_ne F.1 178 dL_acts_157 (by decide) (fun h157 => ?_) (fun h157 => ?_)
            · exact absurd rfl h157
            · refine j_aload_n F.1 dL_acts_160 rfl ?_
              refine j_iload F.1 dL_acts_161 rfl ?_
              refine j_iconst F.1 (0) dL_acts_163 (by decide) ?_
              refine j_callV F (c_cellOf (H_le hn4) hu) co_X5_cellOf ml_L_19 im_X5_cellOf se_X5_cellOf in_X5 rc_X5_cellOf rfl (by decide) (by decide) ⟨by decide, rfl⟩ rfl rfl (Nat.le_of_ble_eq_true rfl) dL_acts_164 (fun r u hr => ?_)
              obtain ⟨rfl, hu⟩ := hr
              refine j_tl ?_
              refine j_top ((ceo_0 hi).trans h0) ?_
              refine j_iload F.1 dL_acts_167 rfl ?_
              refine j_iconst F.1 (1) dL_acts_169 (by decide) ?_
              refine j_iadd F.1 dL_acts_170 ?_
              refine j_icmp_ne F.1 178 dL_acts_171 (by decide) (fun h171 => ?_) (fun h171 => ?_)
              · exact absurd rfl h171
              · refine j_iconst F.1 (1) dL_acts_174 (by decide) ?_
                refine j_goto F.1 179 dL_acts_175 (by decide) ?_
                exact j_zret F (Or.inr rfl) dL_acts_179 ⟨rfl, tx, ln, hl60, Or.inr ⟨_, hg.up (by omega), hu⟩⟩
  · refine j_aload_n F.1 dL_acts_22 rfl ?_
    refine j_iload F.1 dL_acts_23 rfl ?_
    refine j_iload_n F.1 dL_acts_25 rfl ?_
    refine j_ldc F cn_L_54 dL_acts_26 ?_
    refine j_callSi F (c_low (N := 200003) (by decide) (by decide)) co_L_low ml_L_37 st_L_low in_L rc_L_low rfl (by decide) (by decide) rfl (Nat.le_of_ble_eq_true rfl) dL_acts_28 ?_
    refine j_ldc F cn_L_55 dL_acts_31 ?_
    refine j_isub F.1 dL_acts_33 ?_
    rcases define_cases (p := p) (n := n) (c := c) (x := nI (lowN y 200003) - 100001) hI (by omega) with e | e
    · have he := e
      refine j_callV F (c_define hn4 hu) co_X5_define ml_L_56 im_X5_define se_X5_define in_X5 rc_X5_define rfl (by decide) (by decide) ⟨by decide, rfl⟩ rfl rfl (Nat.le_of_ble_eq_true rfl) dL_acts_34 (fun r u hr => ?_)
      rw [he] at hr
      obtain ⟨rfl, hu⟩ := hr
      refine j_tl ?_
      refine j_istore F.1 dL_acts_37 (by rw [hn]; decide) ?_
      refine j_iload F.1 dL_acts_39 rfl ?_
      refine j_ldc F cn_L_59 dL_acts_41 ?_
      refine j_icmp_eq F.1 66 dL_acts_43 (by decide) (fun h43 => ?_) (fun h43 => ?_)
      · refine j_iconst F.1 (1) dL_acts_66 (by decide) ?_
        refine j_goto F.1 71 dL_acts_67 (by decide) ?_
        exact j_zret F (Or.inr rfl) dL_acts_71 ⟨rfl, tx, ln, hl60, Or.inl hu⟩
      · exact absurd rfl h43
    · obtain ⟨i, g, hi, rfl, he, hg, h0⟩ := e
      refine j_callV F (c_define hn4 hu) co_X5_define ml_L_56 im_X5_define se_X5_define in_X5 rc_X5_define rfl (by decide) (by decide) ⟨by decide, rfl⟩ rfl rfl (Nat.le_of_ble_eq_true rfl) dL_acts_34 (fun r u hr => ?_)
      rw [he] at hr
      obtain ⟨rfl, hu⟩ := hr
      refine j_tl ?_
      refine j_istore F.1 dL_acts_37 (by rw [hn]; decide) ?_
      refine j_iload F.1 dL_acts_39 rfl ?_
      refine j_ldc F cn_L_59 dL_acts_41 ?_
      refine j_icmp_eq F.1 66 dL_acts_43 (by decide) (fun h43 => ?_) (fun h43 => ?_)
      · refine j_iconst F.1 (1) dL_acts_66 (by decide) ?_
        refine j_goto F.1 71 dL_acts_67 (by decide) ?_
        exact j_zret F (Or.inr rfl) dL_acts_71 ⟨rfl, tx, ln, hl60, Or.inr ⟨_, hg.up (by omega), hu⟩⟩
      · refine j_iload F.1 dL_acts_46 rfl ?_
        refine j_aload_n F.1 dL_acts_48 rfl ?_
        refine j_iconst F.1 (0) dL_acts_49 (by decide) ?_
        refine j_callV F (c_count (H_le hn4) hu) co_X5_count ml_L_13 im_X5_count se_X5_count in_X5 rc_X5_count rfl (by decide) (by decide) ⟨by decide, rfl⟩ rfl rfl (Nat.le_of_ble_eq_true rfl) dL_acts_50 (fun r u hr => ?_)
        obtain ⟨rfl, hu⟩ := hr
        refine j_tl ?_
        refine j_top (show S_count _ _ (nI ln) 0 = g 0 from rfl) ?_
        refine j_icmp_ne F.1 70 dL_acts_53 (by decide) (fun h53 => ?_) (fun h53 => ?_)
        · exact absurd rfl h53
        · refine j_aload_n F.1 dL_acts_56 rfl ?_
          refine j_iload F.1 dL_acts_57 rfl ?_
          refine j_iconst F.1 (0) dL_acts_59 (by decide) ?_
          refine j_callV F (c_cellOf (H_le hn4) hu) co_X5_cellOf ml_L_19 im_X5_cellOf se_X5_cellOf in_X5 rc_X5_cellOf rfl (by decide) (by decide) ⟨by decide, rfl⟩ rfl rfl (Nat.le_of_ble_eq_true rfl) dL_acts_60 (fun r u hr => ?_)
          obtain ⟨rfl, hu⟩ := hr
          refine j_tl ?_
          refine j_top ((ceo_0 hi).trans h0) ?_
          refine j_if_ne F.1 70 dL_acts_63 (by decide) (fun h63 => ?_) (fun h63 => ?_)
          · exact absurd rfl h63
          · refine j_iconst F.1 (1) dL_acts_66 (by decide) ?_
            refine j_goto F.1 71 dL_acts_67 (by decide) ?_
            exact j_zret F (Or.inr rfl) dL_acts_71 ⟨rfl, tx, ln, hl60, Or.inr ⟨_, hg.up (by omega), hu⟩⟩
