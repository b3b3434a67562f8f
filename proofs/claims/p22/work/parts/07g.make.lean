/-! Making: the whole class. -/
abbrev eX0 : va_E := .inr (4, [.null, .int 0, .int 0, .int 0, .null])
abbrev eX (a d : Nat) : va_E := .inr (4, [.ref a, .int 0, .int 0, .int 0, .ref d])
abbrev eCh (cC : ClassId) : va_E := .inl (cC, 60, .inl (fun _ => 0))
abbrev eM0 : va_E := .inr (5, [.null, .null, .null, .null, .null])
abbrev eM (a b c d e : Nat) : va_E := .inr (5, [.ref a, .ref b, .ref c, .ref d, .ref e])
def txF (x ch d : Nat) (cC : ClassId) : va_W := [(x, eX ch d), (ch, eCh cC), (d, eD)]
def mnF (h0 : Nat) (t0 t1 : sT) (h b : Nat) (cB : ClassId) (t : Nat → sT) (x ch d : Nat) (cC : ClassId) (g : Nat) : va_W :=
  (h0, eM t0.1 t1.1 h x g) :: ((((stF t0 ++ stF t1) ++ hiF h b cB t 4) ++ txF x ch d cC) ++ [(g, eD)])
def mnK (t0 t1 : sT) (cB : ClassId) (t : Nat → sT) (cC : ClassId) : List (ClassId × FieldType) :=
  ([(t0.2.2.1, .object RX0)] ++ [(t1.2.2.1, .object RX0)]) ++ ((cB, .object RX3) :: htl t 4) ++ [(cC, .char)]
set_option maxHeartbeats 4000000 in
set_option maxRecDepth 100000 in
/-- the whole class -/
theorem i_main (l : Launch) (D : va_G) (h0 sz : Nat) : Met l yX5_init (Cond.code yX5_init cX5_init 1 none :: lw_g) (rmR 5 138 981) (va_Pc [.ref h0] (MP D h0 sz eM0))
    (MK D (va_A [(h0, eM0)] sz) (fun ws tys => ∃ (t0 t1 : sT) (h b : Nat) (cB : ClassId) (t : Nat → sT) (x ch d : Nat) (cC : ClassId) (g : Nat), ws = mnF h0 t0 t1 h b cB t x ch d cC g ∧ tys = mnK t0 t1 cB t cC)) 138 981 (va_A [(h0, eM0)] sz) := by
  refine Met.ofW (cc := cX5_init) (maxL := 1) (ret := none) (by decide) rfl ?_
  intro p e s m args below meth c s₁ B hml hv
  obtain ⟨rfl, hsz, hP, hK, hN, hO0, hO3⟩ := hv
  have hx := B.exec
  have hb := B.bytes
  have hr := B.returns
  have hts0 := atoms_spec (ws := Cond.code yX5_init cX5_init 1 none :: lw_g) B.pre
  have hts : ∀ w ∈ lw_g, w.before #[Value.ref h0] s = true := fun w hw => hts0 w (List.mem_cons_of_mem _ hw)
  have hown : s.vm.findClass RX5 = some m.cls := findClass_of_methodNamed B.named
  have hlocks := B.notSynchronized
  have hin : meth.name = "<init>" := (name_of_methodNamed B.named B.method).1
  subst hsz
  generalize hAe : va_A [(h0, eM0)] s.heap.size = A
  have hA : ∀ q : Nat, s.heap.size ≤ q → A q := fun q h => by rw [← hAe]; exact Or.inr h
  have hD : va_D A [(h0, eM0)] := va_D1 (by rw [← hAe]; exact va_A1)
  have hS : va_S A s.heap s.heap [] := va_S.rf
  have hl := lv_entry ([.ref h0]) (n := 1) (Nat.le_of_ble_eq_true rfl)
  rw [lg_entry_eq]
  generalize (lg_sl ([.ref h0]) ++ List.replicate (1 - (lg_sl ([.ref h0])).length) Slot.unset).toArray = ls at hl ⊢
  have hl : lv_has ls 1 [(0, .ref h0)] := hl
  refine lv_aload_n hx hb dX5_init_0 rfl (lv_at hl 0 rfl) ?_
  refine W.objInit hx hb hown (hts _ ml_X5_1) (hts _ im_obj) (hts _ co_obj) rfl (by rw [hml]; exact hl.1) rfl dX5_init_1 (Nat.le_of_ble_eq_true rfl) (Nat.le_of_ble_eq_true rfl) ?_
  refine W.eq (g2 := F0 m 4 ls []) rfl ?_
  refine lv_aload_n hx hb dX5_init_4 rfl (lv_at hl 0 rfl) ?_
  refine va_new (D := D) (C := RX3) (T := TX3) (N := 10) (ci := 3) (own := RX5) hx hb hts inX3 tyX3 tyX3_ok hown (hts _ kl_X5_7) (hts _ ia_X3) (hts _ in_X3) hK hP hD hS hA rfl (fs := [.null, .int 0, .int 0, .int 0, .int 0, .int 0, .int 0, .int 0, .int 0, .int 0]) (by decide) (Nat.le_of_ble_eq_true rfl) (Nat.le_of_ble_eq_true rfl) dX5_init_5 (fun q0 H hP hD hS => ?_)
  refine lv_dup hx hb dX5_init_8 rfl ?_
  have hz0 := hS.1
  refine va_callv (va_runI (As := []) (rest := [.ref q0, .ref h0]) (Ts := lw_g) (own := RX5) ⟨hx, hb, hml, hown, hts⟩ (i_state l D q0 H.size) (cwI 0 hts (rc_good co_X3_init) rfl rfl rfl (hts _ in_X3) (hts _ ml_X5_9) (hts _ im_X3_init) rfl rc_X3_init ⟨by decide, by decide⟩) ⟨MP_blind, fun U hU hW => ⟨rfl, MP_at hP hK hN hO0 hO3 hU hW⟩⟩ rfl rfl hl.1 rfl (lv_room (Nat.le_of_ble_eq_true rfl)) dX5_init_9 ⟨Nat.le_of_ble_eq_true rfl, Nat.le_of_ble_eq_true rfl⟩) hS (fun z _ h => free_push hD hA hz0 z h) (fun z h => free_push hD hA hz0 z h) (fun u s0 H1 locs ht hvm hw hB hz1 hk1 hS => ?_)
  obtain ⟨w1, ty1⟩ := u
  obtain ⟨t0, hq, rfl, rfl⟩ := hw
  subst hq
  obtain ⟨hP1, hK1, hD1⟩ := hB
  rw [ht] at hP1
  have hK := hK.app (va_K.moved hvm.symm hK1)
  obtain ⟨hP, hD⟩ := join_push hP hD hA hz0 hk1 hP1 hD1
  have hP : va_P D vwCl ((h0, .inr (5, [.null, .null, .null, .null, .null])) :: stF t0) H1 := hP
  have hD : va_D A ((h0, (.inr (5, [.null, .null, .null, .null, .null]) : va_E)) :: stF t0) := hD
  refine va_putF (D := D) (ci := 5) (v := .ref t0.1) (ty := .object RX3) (C := RX5) (T := TX5) (N := 5) hx hb hts inX5 tyX5 tyX5_ok nmX5 hown hK hP hD hS 0 rfl rfl 0 (by decide) (hts _ fl_X5_10) (fun _ h9 => h9) rfl hin rfl (by decide +kernel) rfl rfl (Nat.le_of_ble_eq_true rfl) dX5_init_12 (fun H locs hP hD hS => ?_)
  have hP : va_P D vwCl ((h0, .inr (5, [.ref t0.1, .null, .null, .null, .null])) :: stF t0) H := hP
  have hD : va_D A ((h0, (.inr (5, [.ref t0.1, .null, .null, .null, .null]) : va_E)) :: stF t0) := hD
  refine lv_aload_n hx hb dX5_init_15 rfl (lv_at hl 0 rfl) ?_
  refine va_new (D := D) (C := RX3) (T := TX3) (N := 10) (ci := 3) (own := RX5) hx hb hts inX3 tyX3 tyX3_ok hown (hts _ kl_X5_7) (hts _ ia_X3) (hts _ in_X3) hK hP hD hS hA rfl (fs := [.null, .int 0, .int 0, .int 0, .int 0, .int 0, .int 0, .int 0, .int 0, .int 0]) (by decide) (Nat.le_of_ble_eq_true rfl) (Nat.le_of_ble_eq_true rfl) dX5_init_16 (fun q1 H hP hD hS => ?_)
  refine lv_dup hx hb dX5_init_19 rfl ?_
  have hz0 := hS.1
  refine va_callv (va_runI (As := []) (rest := [.ref q1, .ref h0]) (Ts := lw_g) (own := RX5) ⟨hx, hb, hml, hown, hts⟩ (i_state l D q1 H.size) (cwI 0 hts (rc_good co_X3_init) rfl rfl rfl (hts _ in_X3) (hts _ ml_X5_9) (hts _ im_X3_init) rfl rc_X3_init ⟨by decide, by decide⟩) ⟨MP_blind, fun U hU hW => ⟨rfl, MP_at hP hK hN hO0 hO3 hU hW⟩⟩ rfl rfl hl.1 rfl (lv_room (Nat.le_of_ble_eq_true rfl)) dX5_init_20 ⟨Nat.le_of_ble_eq_true rfl, Nat.le_of_ble_eq_true rfl⟩) hS (fun z _ h => free_push hD hA hz0 z h) (fun z h => free_push hD hA hz0 z h) (fun u s1 H1 locs ht hvm hw hB hz1 hk1 hS => ?_)
  obtain ⟨w1, ty1⟩ := u
  obtain ⟨t1, hq, rfl, rfl⟩ := hw
  subst hq
  obtain ⟨hP1, hK1, hD1⟩ := hB
  rw [ht] at hP1
  have hK := hK.app (va_K.moved hvm.symm hK1)
  obtain ⟨hP, hD⟩ := join_push hP hD hA hz0 hk1 hP1 hD1
  have hP : va_P D vwCl ((h0, .inr (5, [.ref t0.1, .null, .null, .null, .null])) :: (stF t0 ++ stF t1)) H1 := hP
  have hD : va_D A ((h0, (.inr (5, [.ref t0.1, .null, .null, .null, .null]) : va_E)) :: (stF t0 ++ stF t1)) := hD
  refine va_putF (D := D) (ci := 5) (v := .ref t1.1) (ty := .object RX3) (C := RX5) (T := TX5) (N := 5) hx hb hts inX5 tyX5 tyX5_ok nmX5 hown hK hP hD hS 0 rfl rfl 1 (by decide) (hts _ fl_X5_16) (fun _ h9 => h9) rfl hin rfl (by decide +kernel) rfl rfl (Nat.le_of_ble_eq_true rfl) dX5_init_23 (fun H locs hP hD hS => ?_)
  have hP : va_P D vwCl ((h0, .inr (5, [.ref t0.1, .ref t1.1, .null, .null, .null])) :: (stF t0 ++ stF t1)) H := hP
  have hD : va_D A ((h0, (.inr (5, [.ref t0.1, .ref t1.1, .null, .null, .null]) : va_E)) :: (stF t0 ++ stF t1)) := hD
  refine lv_aload_n hx hb dX5_init_26 rfl (lv_at hl 0 rfl) ?_
  refine va_new (D := D) (C := RX2) (T := TX2) (N := 2) (ci := 2) (own := RX5) hx hb hts inX2 tyX2 tyX2_ok hown (hts _ kl_X5_19) (hts _ ia_X2) (hts _ in_X2) hK hP hD hS hA rfl (fs := [.null, .int 0]) (by decide) (Nat.le_of_ble_eq_true rfl) (Nat.le_of_ble_eq_true rfl) dX5_init_27 (fun q2 H hP hD hS => ?_)
  refine lv_dup hx hb dX5_init_30 rfl ?_
  have hz0 := hS.1
  refine va_callv (va_runI (As := []) (rest := [.ref q2, .ref h0]) (Ts := lw_g) (own := RX5) ⟨hx, hb, hml, hown, hts⟩ (i_hist l D q2 H.size) (cwI 0 hts (rc_good co_X2_init) rfl rfl rfl (hts _ in_X2) (hts _ ml_X5_21) (hts _ im_X2_init) rfl rc_X2_init ⟨by decide, by decide⟩) ⟨MP_blind, fun U hU hW => ⟨rfl, MP_at hP hK hN hO0 hO3 hU hW⟩⟩ rfl rfl hl.1 rfl (lv_room (Nat.le_of_ble_eq_true rfl)) dX5_init_31 ⟨Nat.le_of_ble_eq_true rfl, Nat.le_of_ble_eq_true rfl⟩) hS (fun z _ h => free_push hD hA hz0 z h) (fun z h => free_push hD hA hz0 z h) (fun u s2 H1 locs ht hvm hw hB hz1 hk1 hS => ?_)
  obtain ⟨w1, ty1⟩ := u
  obtain ⟨b, cB, t, rfl, rfl⟩ := hw
  obtain ⟨hP1, hK1, hD1⟩ := hB
  rw [ht] at hP1
  have hK := hK.app (va_K.moved hvm.symm hK1)
  obtain ⟨hP, hD⟩ := join_push hP hD hA hz0 hk1 hP1 hD1
  have hP : va_P D vwCl ((h0, .inr (5, [.ref t0.1, .ref t1.1, .null, .null, .null])) :: ((stF t0 ++ stF t1) ++ hiF q2 b cB t 4)) H1 := hP
  have hD : va_D A ((h0, (.inr (5, [.ref t0.1, .ref t1.1, .null, .null, .null]) : va_E)) :: ((stF t0 ++ stF t1) ++ hiF q2 b cB t 4)) := hD
  refine va_putF (D := D) (ci := 5) (v := .ref q2) (ty := .object RX2) (C := RX5) (T := TX5) (N := 5) hx hb hts inX5 tyX5 tyX5_ok nmX5 hown hK hP hD hS 0 rfl rfl 2 (by decide) (hts _ fl_X5_22) (fun _ h9 => h9) rfl hin rfl (by decide +kernel) rfl rfl (Nat.le_of_ble_eq_true rfl) dX5_init_34 (fun H locs hP hD hS => ?_)
  have hP : va_P D vwCl ((h0, .inr (5, [.ref t0.1, .ref t1.1, .ref q2, .null, .null])) :: ((stF t0 ++ stF t1) ++ hiF q2 b cB t 4)) H := hP
  have hD : va_D A ((h0, (.inr (5, [.ref t0.1, .ref t1.1, .ref q2, .null, .null]) : va_E)) :: ((stF t0 ++ stF t1) ++ hiF q2 b cB t 4)) := hD
  refine lv_aload_n hx hb dX5_init_37 rfl (lv_at hl 0 rfl) ?_
  refine va_new (D := D) (C := RX4) (T := TX4) (N := 5) (ci := 4) (own := RX5) hx hb hts inX4 tyX4 tyX4_ok hown (hts _ kl_X5_26) (hts _ ia_X4) (hts _ in_X4) hK hP hD hS hA rfl (fs := [.null, .int 0, .int 0, .int 0, .null]) (by decide) (Nat.le_of_ble_eq_true rfl) (Nat.le_of_ble_eq_true rfl) dX5_init_38 (fun q3 H hP hD hS => ?_)
  refine lv_dup hx hb dX5_init_41 rfl ?_
  have hz0 := hS.1
  refine va_callv (va_runIN (As := []) (rest := [.ref q3, .ref h0]) (Ts := lw_g) (own := RX5) (host := RX5) ⟨hx, hb, hml, hown, hts⟩ (i_text l D q3 H.size) ⟨va_cnB 0 hts (rc_good co_X4_init) rfl rfl rfl (hN _ mn_X5_28) (hts _ in_X4) rc_X4_init ⟨by decide, by decide⟩, rfl, hts _ im_X4_init⟩ ⟨MP_blind, fun U hU hW => ⟨rfl, MP_at hP hK hN hO0 hO3 hU hW⟩⟩ rfl rfl hl.1 rfl (lv_room (Nat.le_of_ble_eq_true rfl)) dX5_init_42 ⟨Nat.le_of_ble_eq_true rfl, Nat.le_of_ble_eq_true rfl⟩) hS (fun z _ h => free_push hD hA hz0 z h) (fun z h => free_push hD hA hz0 z h) (fun u s3 H1 locs ht hvm hw hB hz1 hk1 hS => ?_)
  obtain ⟨w1, ty1⟩ := u
  obtain ⟨ch, d, cC, rfl, rfl⟩ := hw
  obtain ⟨hP1, hK1, hD1⟩ := hB
  rw [ht] at hP1
  have hK := hK.app (va_K.moved hvm.symm hK1)
  obtain ⟨hP, hD⟩ := join_push hP hD hA hz0 hk1 hP1 hD1
  have hP : va_P D vwCl ((h0, .inr (5, [.ref t0.1, .ref t1.1, .ref q2, .null, .null])) :: (((stF t0 ++ stF t1) ++ hiF q2 b cB t 4) ++ txF q3 ch d cC)) H1 := hP
  have hD : va_D A ((h0, (.inr (5, [.ref t0.1, .ref t1.1, .ref q2, .null, .null]) : va_E)) :: (((stF t0 ++ stF t1) ++ hiF q2 b cB t 4) ++ txF q3 ch d cC)) := hD
  refine va_putF (D := D) (ci := 5) (v := .ref q3) (ty := .object RX4) (C := RX5) (T := TX5) (N := 5) hx hb hts inX5 tyX5 tyX5_ok nmX5 hown hK hP hD hS 0 rfl rfl 3 (by decide) (hts _ fl_X5_29) (fun _ h9 => h9) rfl hin rfl (by decide +kernel) rfl rfl (Nat.le_of_ble_eq_true rfl) dX5_init_45 (fun H locs hP hD hS => ?_)
  have hP : va_P D vwCl ((h0, .inr (5, [.ref t0.1, .ref t1.1, .ref q2, .ref q3, .null])) :: (((stF t0 ++ stF t1) ++ hiF q2 b cB t 4) ++ txF q3 ch d cC)) H := hP
  have hD : va_D A ((h0, (.inr (5, [.ref t0.1, .ref t1.1, .ref q2, .ref q3, .null]) : va_E)) :: (((stF t0 ++ stF t1) ++ hiF q2 b cB t 4) ++ txF q3 ch d cC)) := hD
  refine lv_aload_n hx hb dX5_init_48 rfl (lv_at hl 0 rfl) ?_
  refine va_new (D := D) (C := RX1) (T := TX1) (N := 5) (ci := 1) (own := RX5) hx hb hts inX1 tyX1 tyX1_ok hown (hts _ kl_X5_33) (hts _ ia_X1) (hts _ in_X1) hK hP hD hS hA rfl (fs := [.int 0, .int 0, .int 0, .int 0, .int 0]) (by decide) (Nat.le_of_ble_eq_true rfl) (Nat.le_of_ble_eq_true rfl) dX5_init_49 (fun q4 H hP hD hS => ?_)
  refine lv_dup hx hb dX5_init_52 rfl ?_
  have hz0 := hS.1
  refine va_callv (va_runIN (As := []) (rest := [.ref q4, .ref h0]) (Ts := lw_g) (own := RX5) (host := RX5) ⟨hx, hb, hml, hown, hts⟩ (i_def l D q4 H.size) ⟨va_cnB 0 hts (rc_good co_X1_init) rfl rfl rfl (hN _ mn_X5_35) (hts _ in_X1) rc_X1_init ⟨by decide, by decide⟩, rfl, hts _ im_X1_init⟩ ⟨MP_blind, fun U hU hW => ⟨rfl, MP_at hP hK hN hO0 hO3 hU hW⟩⟩ rfl rfl hl.1 rfl (lv_room (Nat.le_of_ble_eq_true rfl)) dX5_init_53 ⟨Nat.le_of_ble_eq_true rfl, Nat.le_of_ble_eq_true rfl⟩) hS (fun z _ h => free_push hD hA hz0 z h) (fun z h => free_push hD hA hz0 z h) (fun u s4 H1 locs ht hvm hw hB hz1 hk1 hS => ?_)
  obtain ⟨w1, ty1⟩ := u
  obtain ⟨rfl, rfl⟩ := hw
  obtain ⟨hP1, hK1, hD1⟩ := hB
  rw [ht] at hP1
  have hK := hK.app (va_K.moved hvm.symm hK1)
  obtain ⟨hP, hD⟩ := join_push hP hD hA hz0 hk1 hP1 hD1
  have hP : va_P D vwCl ((h0, .inr (5, [.ref t0.1, .ref t1.1, .ref q2, .ref q3, .null])) :: ((((stF t0 ++ stF t1) ++ hiF q2 b cB t 4) ++ txF q3 ch d cC) ++ [(q4, eD)])) H1 := hP
  have hD : va_D A ((h0, (.inr (5, [.ref t0.1, .ref t1.1, .ref q2, .ref q3, .null]) : va_E)) :: ((((stF t0 ++ stF t1) ++ hiF q2 b cB t 4) ++ txF q3 ch d cC) ++ [(q4, eD)])) := hD
  refine va_putF (D := D) (ci := 5) (v := .ref q4) (ty := .object RX1) (C := RX5) (T := TX5) (N := 5) hx hb hts inX5 tyX5 tyX5_ok nmX5 hown hK hP hD hS 0 rfl rfl 4 (by decide) (hts _ fl_X5_36) (fun _ h9 => h9) rfl hin rfl (by decide +kernel) rfl rfl (Nat.le_of_ble_eq_true rfl) dX5_init_56 (fun H locs hP hD hS => ?_)
  have hP : va_P D vwCl ((h0, .inr (5, [.ref t0.1, .ref t1.1, .ref q2, .ref q3, .ref q4])) :: ((((stF t0 ++ stF t1) ++ hiF q2 b cB t 4) ++ txF q3 ch d cC) ++ [(q4, eD)])) H := hP
  have hD : va_D A ((h0, (.inr (5, [.ref t0.1, .ref t1.1, .ref q2, .ref q3, .ref q4]) : va_E)) :: ((((stF t0 ++ stF t1) ++ hiF q2 b cB t 4) ++ txF q3 ch d cC) ++ [(q4, eD)])) := hD
  exact W.vret hx hb hr (fun t2 ht hW => ⟨⟨(_, _), rfl, ⟨t0, t1, q2, b, cB, t, q3, ch, d, cC, q4, rfl, rfl⟩, by rw [ht]; exact hP, va_K.moved hW.alike (hK.sub [0, 1, 2, 3, 4, 5, 6, 7] rfl), hD⟩, hS.F ht⟩) hS.2.2 dX5_init_59
