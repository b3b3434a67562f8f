/-! Making: a state. -/
theorem arrV_cg {cI : ClassId} {N : Nat} {f g : Nat → Value} (h : ∀ j, j < N → f j = g j) : arrV cI N f = arrV cI N g := by
  unfold arrV
  rw [show (fun j : Fin N => f j.val) = fun j : Fin N => g j.val from funext fun j => h j.val j.isLt]
theorem at_refs {D : va_G} {cl : List vw_C} {a n : Nat} {cI : ClassId} {f g : Nat → Option Nat} {H : Heap} (h : ∀ j, j < n → f j = g j) (k : va_at D cl (a, .inl (cI, n, .inr (.inr (.inr (.inr f))))) H) : va_at D cl (a, .inl (cI, n, .inr (.inr (.inr (.inr g))))) H := by
  show H[a]? = some (arrV cI n (fun j => va_rf (g j)))
  rw [← arrV_cg (f := fun j => va_rf (f j)) (fun j hj => by rw [h j hj])]
  exact k
theorem last_P {D : va_G} {cl : List vw_C} {ws : va_W} {q : Nat × va_E} {H : Heap} (h : va_P D cl (ws ++ [q]) H) : va_P D cl [q] H := fun k x hk => by
  cases k with
  | zero =>
    rw [← Option.some.inj hk]
    exact h ws.length q push_at
  | succ k => simp at hk
theorem MP_blind {D : va_G} {h0 sz : Nat} {e : va_E} {as : List Value} : FrameBlind (va_Pc as (MP D h0 sz e)) := fun a U g mk z => by
  obtain ⟨z0, z1, zP, zK, zN, zO⟩ := z
  exact ⟨z0, z1, zP, va_K.moved (u := U) (U := U.calling g mk a) (Vm.Alike.refl U.vm) zK, Nw_calling zN, zO⟩
theorem MP_at {D : va_G} {q : Nat} {e : va_E} {s U : State} {H : Heap} {ws : va_W} {tys : List (ClassId × FieldType)} (hP : va_P D vwCl (ws ++ [(q, e)]) H) (hK : va_K D vwCl tys s) (hN : ∀ w ∈ lw_n, va_Nw w s) (hO0 : va_AO RX0 s) (hO3 : va_AO RX3 s) (hU : U.heap = H) (hW : s.WarmedH U.vm) : MP D q H.size e U :=
  ⟨by rw [hU], by rw [hU]; exact last_P hP, va_K.moved hW.alike (hK.sub [] rfl), Nw_moved hW hN, va_AO.moved hW.alike hO0, va_AO.moved hW.alike hO3⟩
abbrev eC0 : va_E := .inr (0, [.null, .int 0, .int 0, .int 0, .int 0, .int 0, .int 0, .int 0])
abbrev eC (d : Nat) : va_E := .inr (0, [.ref d, .int 0, .int 0, .int 0, .int 0, .int (-1), .int 0, .int 0])
abbrev eD : va_E := .inr (1, [.int (-1), .int 0, .int 0, .int 0, .int 0])
abbrev eS0 : va_E := .inr (3, [.null, .int 0, .int 0, .int 0, .int 0, .int 0, .int 0, .int 0, .int 0, .int 0])
abbrev eS (a : Nat) : va_E := .inr (3, [.ref a, .int 0, .int 10, .int 0, .int 0, .int 0, .int 0, .int 0, .int 0, .int 0])
abbrev eR (cA : ClassId) (n k : Nat) (c : Nat → Nat) : va_E := .inl (cA, n, .inr (.inr (.inr (.inr (fun j => if j < k then some (c j) else none)))))
/-- cells and their definitions -/
def pcd (c d : Nat → Nat) : Nat → va_W
  | 0 => []
  | k + 1 => pcd c d k ++ [(c k, eC (d k)), (d k, eD)]
theorem pcd_congr {c d c' d' : Nat → Nat} : ∀ k : Nat, (∀ j, j < k → c' j = c j ∧ d' j = d j) → pcd c' d' k = pcd c d k := by
  intro k
  induction k with
  | zero => intro _; rfl
  | succ k ih =>
    intro h
    show pcd c' d' k ++ [(c' k, eC (d' k)), (d' k, eD)] = pcd c d k ++ [(c k, eC (d k)), (d k, eD)]
    rw [ih (fun j hj => h j (by omega)), (h k (by omega)).1, (h k (by omega)).2]
theorem pcd_push {c d : Nat → Nat} {k q d1 : Nat} : pcd c d k ++ [(q, eC d1), (d1, eD)] = pcd (va_up c k q) (va_up d k d1) (k + 1) := by
  show _ = pcd (va_up c k q) (va_up d k d1) k ++ [(va_up c k q k, eC (va_up d k d1 k)), (va_up d k d1 k, eD)]
  rw [va_up_self, va_up_self, pcd_congr k (fun j hj => ⟨va_up_ne c q (by omega), va_up_ne d d1 (by omega)⟩)]
theorem pcd_len {c d : Nat → Nat} : ∀ k : Nat, (pcd c d k).length = 2 * k := by
  intro k
  induction k with
  | zero => rfl
  | succ k ih =>
    show (pcd c d k ++ [(c k, eC (d k)), (d k, eD)]).length = _
    rw [List.length_append, ih]
    show 2 * k + 2 = 2 * (k + 1)
    omega
theorem pcd_at {c d : Nat → Nat} : ∀ (k j : Nat), j < k → (pcd c d k)[2 * j]? = some (c j, eC (d j)) ∧ (pcd c d k)[2 * j + 1]? = some (d j, eD) := by
  intro k
  induction k with
  | zero => intro j h; omega
  | succ k ih =>
    intro j hj
    show (pcd c d k ++ [(c k, eC (d k)), (d k, eD)])[2 * j]? = _ ∧ (pcd c d k ++ [(c k, eC (d k)), (d k, eD)])[2 * j + 1]? = _
    by_cases e : j = k
    · subst e
      rw [List.getElem?_append_right (by rw [pcd_len]; omega), List.getElem?_append_right (by rw [pcd_len]; omega), pcd_len, Nat.sub_self, Nat.add_sub_cancel_left]
      exact ⟨rfl, rfl⟩
    · rw [List.getElem?_append_left (by rw [pcd_len]; omega), List.getElem?_append_left (by rw [pcd_len]; omega)]
      exact ih j (by omega)
theorem up_refs {c : Nat → Nat} {i q : Nat} (hi : i < 10) : va_up (fun j => if j < i then some (c j) else none) (nI i).toNatClampNeg (some q) = fun j => if j < i + 1 then some (va_up c i q j) else none := by
  funext j
  rw [nI_clamp (by omega)]
  by_cases e : j = i
  · subst e
    rw [va_up_self, va_up_self, if_pos (by omega)]
  · rw [va_up_ne _ _ e, va_up_ne _ _ e]
    by_cases h : j < i
    · rw [if_pos h, if_pos (by omega)]
    · rw [if_neg h, if_neg (by omega)]
set_option maxHeartbeats 4000000 in
set_option maxRecDepth 100000 in
theorem st_loop {p : Program} {l : Launch} {e : Env} {s : State} {m : MethodId} {below : List Frame} {meth : Method} {c : Code} {Q : State → Prop} {A : Nat → Prop} {D : va_G} {h0 b : Nat} {cA : ClassId}
    (hx : p.tables.exec = Jvm.exec) (hb : c.code = cX3_init) (hml : c.maxLocals = 2) (hown : s.vm.findClass RX3 = some m.cls) (hts : ∀ w ∈ lw_g, w.before #[Value.ref h0] s = true) (hN : ∀ w ∈ lw_n, va_Nw w s) (hO0 : va_AO RX0 s) (hO3 : va_AO RX3 s) (hK : va_K D vwCl [(cA, .object RX0)] s) (hA : ∀ q : Nat, s.heap.size ≤ q → A q)
    (fin : ∀ (cs ds : Nat → Nat) (H : Heap) (locs : List Loc) (ls : Array Slot), va_P D vwCl ([(h0, eS b), (b, eR cA 10 10 cs)] ++ pcd cs ds 10) H → va_D A ([(h0, eS b), (b, eR cA 10 10 cs)] ++ pcd cs ds 10) → va_S A s.heap H locs → W p l e (rmR 3 21 140) s m #[Value.ref h0] below meth c H locs 21 140 Q (F0 m 46 ls [])) :
    ∀ (r i : Nat), i + r = 10 → ∀ (cs ds : Nat → Nat) (H : Heap) (locs : List Loc) (ls : Array Slot), lv_has ls 2 [(1, .int (nI i)), (0, .ref h0)] → va_P D vwCl ([(h0, eS b), (b, eR cA 10 i cs)] ++ pcd cs ds i) H → va_D A ([(h0, eS b), (b, eR cA 10 i cs)] ++ pcd cs ds i) → va_S A s.heap H locs → W p l e (rmR 3 21 140) s m #[Value.ref h0] below meth c H locs (1 + 2 * i) (10 + 13 * i) Q (F0 m 21 ls []) := by
  intro r
  induction r with
  | zero =>
    intro i hi cs ds H locs ls hl hP hD hS
    have e10 : i = 10 := by omega
    subst e10
    refine lv_iload_n hx hb dX3_init_21 rfl (lv_at hl 0 rfl) ?_
    refine lv_bipush (v := 10) hx hb dX3_init_22 (by decide) ?_
    refine lv_icmp_ge (tgt := 46) hx hb dX3_init_24 (by decide) (fun _ => ?_) (fun h => absurd (by decide) h)
    exact fin cs ds H locs ls hP hD hS
  | succ r ih =>
    intro i hi cs ds H locs ls hl hP hD hS
    have hi10 : i < 10 := by omega
    refine lv_iload_n hx hb dX3_init_21 rfl (lv_at hl 0 rfl) ?_
    refine lv_bipush (v := 10) hx hb dX3_init_22 (by decide) ?_
    refine lv_icmp_ge (tgt := 46) hx hb dX3_init_24 (by decide) (fun h => absurd h (nI_ge (a := i) (b := 10) hi10 (by decide))) (fun _ => ?_)
    refine lv_aload_n hx hb dX3_init_27 rfl (lv_at hl 1 rfl) ?_
    refine va_get (D := D) (ci := 3) (v := .ref b) (C := RX3) (T := TX3) (N := 10) hx hb hts inX3 hown hK hP 0 rfl rfl 0 (by decide) (hts _ fl_X3_11) (fun _ h9 => h9) rfl dX3_init_28 ?_
    refine lv_iload_n hx hb dX3_init_31 rfl (lv_at hl 0 rfl) ?_
    refine va_new (D := D) (C := RX0) (T := TX0) (N := 8) (ci := 0) (own := RX3) hx hb hts inX0 tyX0 tyX0_ok hown (hts _ kl_X3_9) (hts _ ia_X0) (hts _ in_X0) hK hP hD hS hA rfl (fs := [.null, .int 0, .int 0, .int 0, .int 0, .int 0, .int 0, .int 0]) (by decide) (by show 1 + 2 * i + 1 ≤ 21; omega) (by show 10 + 13 * i + 8 ≤ 140; omega) dX3_init_32 (fun q H hP hD hS => ?_)
    refine lv_dup hx hb dX3_init_35 rfl ?_
    have hz0 := hS.1
    refine va_callv (va_runIN (As := []) (rest := [.ref q, .int (nI i), .ref b]) (Ts := lw_g) (own := RX3) (host := RX5) ⟨hx, hb, hml, hown, hts⟩ (i_cell l D q H.size) ⟨va_cnB 0 hts (rc_good co_X0_init) rfl rfl rfl (hN _ mn_X3_21) (hts _ in_X0) rc_X0_init ⟨by decide, by decide⟩, rfl, hts _ im_X0_init⟩ ⟨MP_blind, fun U hU hW => ⟨rfl, MP_at hP hK hN hO0 hO3 hU hW⟩⟩ rfl rfl hl.1 rfl (lv_room (Nat.le_of_ble_eq_true rfl)) dX3_init_36 ⟨by show 1 + 2 * i + 1 + 1 ≤ 21; omega, by show 10 + 13 * i + 8 + 5 ≤ 140; omega⟩) hS (fun z _ h => free_push hD hA hz0 z h) (fun z h => free_push hD hA hz0 z h) (fun u t H1 locs ht hvm hw hB hz1 hk1 hS => ?_)
    obtain ⟨w1, t1⟩ := u
    obtain ⟨⟨d1, rfl⟩, rfl⟩ := hw
    obtain ⟨hP1, hK1, hD1⟩ := hB
    rw [ht] at hP1
    obtain ⟨hP, hD⟩ := join_push hP hD hA hz0 hk1 hP1 hD1
    rw [List.append_assoc, pcd_push] at hP hD
    have hv : ([(h0, eS b), (b, eR cA 10 i cs)] ++ pcd (va_up cs i q) (va_up ds i d1) (i + 1))[2 * i + 1 + 1]? = some (q, eC d1) := by
      show (pcd (va_up cs i q) (va_up ds i d1) (i + 1))[2 * i]? = _
      rw [(pcd_at (i + 1) i (by omega)).1, va_up_self, va_up_self]
    refine va_astq (D := D) hx hb hK hP hD hS 1 0 (2 * i + 1 + 1) 0 rfl rfl hv rfl (vp_in_nI hi10 (by decide)) dX3_init_39 (fun H locs hP hD hS => ?_)
    rw [up_refs hi10] at hP hD
    refine lv_iinc (v := nI (i + 1)) (lv' := [(1, .int (nI (i + 1))), (0, .ref h0)]) hx hb dX3_init_40 hl (k := 0) rfl (by rw [← nI_1]; rfl) (by decide) rfl (fun ls hl => ?_)
    refine lv_goto (tgt := 21) hx hb dX3_init_43 (by decide) ?_
    refine W.widen (k := 1 + 2 * (i + 1)) (n := 10 + 13 * (i + 1)) (by omega) (by omega) ?_
    exact ih (i + 1) (by omega) (va_up cs i q) (va_up ds i d1) H _ ls hl hP hD hS
/-- a state's cells: itself, its array, that one's class, the cells, their definitions -/
abbrev sT : Type := Nat × Nat × ClassId × (Nat → Nat) × (Nat → Nat)
def stF (t : sT) : va_W := [(t.1, eS t.2.1), (t.2.1, eR t.2.2.1 10 10 t.2.2.2.1)] ++ pcd t.2.2.2.1 t.2.2.2.2 10
set_option maxHeartbeats 4000000 in
set_option maxRecDepth 100000 in
/-- a state: its cells -/
theorem i_state (l : Launch) (D : va_G) (h0 sz : Nat) : Met l yX3_init (Cond.code yX3_init cX3_init 2 none :: lw_g) (rmR 3 21 140) (va_Pc [.ref h0] (MP D h0 sz eS0))
    (MK D (va_A [(h0, eS0)] sz) (fun ws tys => ∃ t : sT, t.1 = h0 ∧ ws = stF t ∧ tys = [(t.2.2.1, .object RX0)])) 21 140 (va_A [(h0, eS0)] sz) := by
  refine Met.ofW (cc := cX3_init) (maxL := 2) (ret := none) (by decide) rfl ?_
  intro p e s m args below meth c s₁ B hml hv
  obtain ⟨rfl, hsz, hP, hK, hN, hO0, hO3⟩ := hv
  have hx := B.exec
  have hb := B.bytes
  have hr := B.returns
  have hts0 := atoms_spec (ws := Cond.code yX3_init cX3_init 2 none :: lw_g) B.pre
  have hts : ∀ w ∈ lw_g, w.before #[Value.ref h0] s = true := fun w hw => hts0 w (List.mem_cons_of_mem _ hw)
  have hown : s.vm.findClass RX3 = some m.cls := findClass_of_methodNamed B.named
  have hlocks := B.notSynchronized
  have hin : meth.name = "<init>" := (name_of_methodNamed B.named B.method).1
  subst hsz
  generalize hAe : va_A [(h0, eS0)] s.heap.size = A
  have hA : ∀ q : Nat, s.heap.size ≤ q → A q := fun q h => by rw [← hAe]; exact Or.inr h
  have hD : va_D A [(h0, eS0)] := va_D1 (by rw [← hAe]; exact va_A1)
  have hS : va_S A s.heap s.heap [] := va_S.rf
  have hl := lv_entry ([.ref h0]) (n := 2) (Nat.le_of_ble_eq_true rfl)
  rw [lg_entry_eq]
  generalize (lg_sl ([.ref h0]) ++ List.replicate (2 - (lg_sl ([.ref h0])).length) Slot.unset).toArray = ls at hl ⊢
  have hl : lv_has ls 2 [(0, .ref h0)] := hl
  refine lv_aload_n hx hb dX3_init_0 rfl (lv_at hl 0 rfl) ?_
  refine W.objInit hx hb hown (hts _ ml_X3_3) (hts _ im_obj) (hts _ co_obj) rfl (by rw [hml]; exact hl.1) rfl dX3_init_1 (Nat.le_of_ble_eq_true rfl) (Nat.le_of_ble_eq_true rfl) ?_
  refine W.eq (g2 := F0 m 4 ls []) rfl ?_
  refine lv_aload_n hx hb dX3_init_4 rfl (lv_at hl 0 rfl) ?_
  refine lv_bipush (v := 10) hx hb dX3_init_5 (by decide) ?_
  refine va_newq (D := D) (N' := 10) hx hb hown (hts _ kl_X3_9) hO0 hK hP hD hS hA (by decide) (by decide) (Nat.le_of_ble_eq_true rfl) (Nat.le_of_ble_eq_true rfl) (Nat.le_of_ble_eq_true rfl) dX3_init_7 (fun b cA H hK hP hD hS => ?_)
  refine va_putF (D := D) (ci := 3) (v := .ref b) (ty := .array (.object RX0)) (C := RX3) (T := TX3) (N := 10) hx hb hts inX3 tyX3 tyX3_ok nmX3 hown hK hP hD hS 0 rfl rfl 0 (by decide) (hts _ fl_X3_11) (fun _ h9 => h9) rfl hin rfl (by decide +kernel) rfl rfl (Nat.le_of_ble_eq_true rfl) dX3_init_10 (fun H locs hP hD hS => ?_)
  refine lv_aload_n hx hb dX3_init_13 rfl (lv_at hl 0 rfl) ?_
  refine lv_bipush (v := 10) hx hb dX3_init_14 (by decide) ?_
  refine va_put (D := D) (ci := 3) (v := .int 10) (ty := .int) (C := RX3) (T := TX3) (N := 10) hx hb hts inX3 tyX3 tyX3_ok nmX3 hown hK hP hD hS 0 rfl rfl 2 (by decide) (hts _ fl_X3_17) (fun _ h9 => h9) rfl (by decide +kernel) rfl rfl (Nat.le_of_ble_eq_true rfl) dX3_init_16 (fun H locs hP hD hS => ?_)
  refine lv_iconst (v := 0) hx hb dX3_init_19 (by decide) ?_
  refine lv_istore_n (lv' := [(1, .int (nI 0)), (0, .ref h0)]) hx hb dX3_init_20 rfl hl (by decide) rfl (fun ls hl => ?_)
  refine W.widen (k := 1 + 2 * 0) (n := 10 + 13 * 0) (by decide) (by decide) ?_
  refine st_loop (A := A) (D := D) (b := b) (cA := cA) hx hb hml hown hts hN hO0 hO3 hK hA (fun cs ds H locs ls hP hD hS => ?_) 10 0 rfl (fun _ => 0) (fun _ => 0) H _ ls hl ?_ ?_ hS
  · exact W.vret hx hb hr (fun t ht hW => ⟨⟨(_, _), rfl, ⟨(h0, b, cA, cs, ds), rfl, rfl, rfl⟩, by rw [ht]; exact hP, va_K.moved hW.alike hK, hD⟩, hS.F ht⟩) hS.2.2 dX3_init_46
  · exact hP
  · exact hD
