/-! Making: the history. -/
/-- states, one behind the other -/
def hpl (t : Nat → sT) : Nat → va_W
  | 0 => []
  | k + 1 => hpl t k ++ stF (t k)
def htl (t : Nat → sT) : Nat → List (ClassId × FieldType)
  | 0 => []
  | k + 1 => htl t k ++ [((t k).2.2.1, .object RX0)]
theorem hpl_congr {t t' : Nat → sT} : ∀ k : Nat, (∀ j, j < k → t' j = t j) → hpl t' k = hpl t k ∧ htl t' k = htl t k := by
  intro k
  induction k with
  | zero => intro _; exact ⟨rfl, rfl⟩
  | succ k ih =>
    intro h
    obtain ⟨a, b⟩ := ih (fun j hj => h j (by omega))
    refine ⟨?_, ?_⟩
    · show hpl t' k ++ stF (t' k) = hpl t k ++ stF (t k)
      rw [a, h k (by omega)]
    · show htl t' k ++ [((t' k).2.2.1, .object RX0)] = htl t k ++ [((t k).2.2.1, .object RX0)]
      rw [b, h k (by omega)]
theorem hpl_push {t : Nat → sT} {k : Nat} {t1 : sT} : hpl t k ++ stF t1 = hpl (va_up t k t1) (k + 1) := by
  show _ = hpl (va_up t k t1) k ++ stF (va_up t k t1 k)
  rw [va_up_self, (hpl_congr k (fun j hj => va_up_ne t t1 (by omega))).1]
theorem htl_push {t : Nat → sT} {k : Nat} {t1 : sT} : htl t k ++ [(t1.2.2.1, FieldType.object RX0)] = htl (va_up t k t1) (k + 1) := by
  show _ = htl (va_up t k t1) k ++ [((va_up t k t1 k).2.2.1, FieldType.object RX0)]
  rw [va_up_self, (hpl_congr k (fun j hj => va_up_ne t t1 (by omega))).2]
theorem stF_len {t : sT} : (stF t).length = 22 := by
  show (pcd t.2.2.2.1 t.2.2.2.2 10).length + 1 + 1 = 22
  rw [pcd_len]
theorem hpl_len {t : Nat → sT} : ∀ k : Nat, (hpl t k).length = 22 * k := by
  intro k
  induction k with
  | zero => rfl
  | succ k ih =>
    show (hpl t k ++ stF (t k)).length = _
    rw [List.length_append, ih, stF_len]
    omega
theorem hpl_at {t : Nat → sT} : ∀ (k j x : Nat), j < k → x < 22 → (hpl t k)[22 * j + x]? = (stF (t j))[x]? := by
  intro k
  induction k with
  | zero => intro j x h; omega
  | succ k ih =>
    intro j x hj hx
    show (hpl t k ++ stF (t k))[22 * j + x]? = _
    by_cases e : j = k
    · subst e
      rw [List.getElem?_append_right (by rw [hpl_len]; omega), hpl_len, Nat.add_sub_cancel_left]
    · rw [List.getElem?_append_left (by rw [hpl_len]; omega)]
      exact ih j x (by omega) hx
theorem up_fst {t : Nat → sT} {i q : Nat} {t1 : sT} (h : t1.1 = q) : va_up (fun j => (t j).1) i q = fun j => (va_up t i t1 j).1 := by
  funext j
  by_cases e : j = i
  · subst e
    rw [va_up_self, va_up_self, h]
  · rw [va_up_ne _ _ e, va_up_ne _ _ e]
abbrev eH0 : va_E := .inr (2, [.null, .int 0])
abbrev eH (a : Nat) : va_E := .inr (2, [.ref a, .int 0])
def hiF (h b : Nat) (cB : ClassId) (t : Nat → sT) (k : Nat) : va_W := [(h, eH b), (b, eR cB 4 k (fun j => (t j).1))] ++ hpl t k
set_option maxHeartbeats 4000000 in
set_option maxRecDepth 100000 in
theorem hi_loop {p : Program} {l : Launch} {e : Env} {s : State} {m : MethodId} {below : List Frame} {meth : Method} {c : Code} {Q : State → Prop} {A : Nat → Prop} {D : va_G} {h0 b : Nat} {cB : ClassId}
    (hx : p.tables.exec = Jvm.exec) (hb : c.code = cX2_init) (hml : c.maxLocals = 2) (hown : s.vm.findClass RX2 = some m.cls) (hts : ∀ w ∈ lw_g, w.before #[Value.ref h0] s = true) (hN : ∀ w ∈ lw_n, va_Nw w s) (hO0 : va_AO RX0 s) (hO3 : va_AO RX3 s) (hA : ∀ q : Nat, s.heap.size ≤ q → A q)
    (fin : ∀ (t : Nat → sT) (H : Heap) (locs : List Loc) (ls : Array Slot), va_K D vwCl ((cB, .object RX3) :: htl t 4) s → va_P D vwCl (hiF h0 b cB t 4) H → va_D A (hiF h0 b cB t 4) → va_S A s.heap H locs → W p l e (rmR 4 89 604) s m #[Value.ref h0] below meth c H locs 89 604 Q (F0 m 38 ls [])) :
    ∀ (r i : Nat), i + r = 4 → ∀ (t : Nat → sT) (H : Heap) (locs : List Loc) (ls : Array Slot), lv_has ls 2 [(1, .int (nI i)), (0, .ref h0)] → va_K D vwCl ((cB, .object RX3) :: htl t i) s → va_P D vwCl (hiF h0 b cB t i) H → va_D A (hiF h0 b cB t i) → va_S A s.heap H locs → W p l e (rmR 4 89 604) s m #[Value.ref h0] below meth c H locs (1 + 22 * i) (4 + 150 * i) Q (F0 m 14 ls []) := by
  intro r
  induction r with
  | zero =>
    intro i hi t H locs ls hl hK hP hD hS
    have e4 : i = 4 := by omega
    subst e4
    refine lv_iload_n hx hb dX2_init_14 rfl (lv_at hl 0 rfl) ?_
    refine lv_iconst (v := 4) hx hb dX2_init_15 (by decide) ?_
    refine lv_icmp_ge (tgt := 38) hx hb dX2_init_16 (by decide) (fun _ => ?_) (fun h => absurd (by decide) h)
    exact fin t H locs ls hK hP hD hS
  | succ r ih =>
    intro i hi t H locs ls hl hK hP hD hS
    have hi4 : i < 4 := by omega
    refine lv_iload_n hx hb dX2_init_14 rfl (lv_at hl 0 rfl) ?_
    refine lv_iconst (v := 4) hx hb dX2_init_15 (by decide) ?_
    refine lv_icmp_ge (tgt := 38) hx hb dX2_init_16 (by decide) (fun h => absurd h (nI_ge (a := i) (b := 4) hi4 (by decide))) (fun _ => ?_)
    refine lv_aload_n hx hb dX2_init_19 rfl (lv_at hl 1 rfl) ?_
    refine va_get (D := D) (ci := 2) (v := .ref b) (C := RX2) (T := TX2) (N := 2) hx hb hts inX2 hown hK hP 0 rfl rfl 0 (by decide) (hts _ fl_X2_11) (fun _ h9 => h9) rfl dX2_init_20 ?_
    refine lv_iload_n hx hb dX2_init_23 rfl (lv_at hl 0 rfl) ?_
    refine va_new (D := D) (C := RX3) (T := TX3) (N := 10) (ci := 3) (own := RX2) hx hb hts inX3 tyX3 tyX3_ok hown (hts _ kl_X2_9) (hts _ ia_X3) (hts _ in_X3) hK hP hD hS hA rfl (fs := [.null, .int 0, .int 0, .int 0, .int 0, .int 0, .int 0, .int 0, .int 0, .int 0]) (by decide) (by show 1 + 22 * i + 1 ≤ 89; omega) (by show 4 + 150 * i + 10 ≤ 604; omega) dX2_init_24 (fun q H hP hD hS => ?_)
    refine lv_dup hx hb dX2_init_27 rfl ?_
    have hz0 := hS.1
    refine va_callv (va_runI (As := []) (rest := [.ref q, .int (nI i), .ref b]) (Ts := lw_g) (own := RX2) ⟨hx, hb, hml, hown, hts⟩ (i_state l D q H.size) (cwI 0 hts (rc_good co_X3_init) rfl rfl rfl (hts _ in_X3) (hts _ ml_X2_17) (hts _ im_X3_init) rfl rc_X3_init ⟨by decide, by decide⟩) ⟨MP_blind, fun U hU hW => ⟨rfl, MP_at hP hK hN hO0 hO3 hU hW⟩⟩ rfl rfl hl.1 rfl (lv_room (Nat.le_of_ble_eq_true rfl)) dX2_init_28 ⟨by show 1 + 22 * i + 1 + 21 ≤ 89; omega, by show 4 + 150 * i + 10 + 140 ≤ 604; omega⟩) hS (fun z _ h => free_push hD hA hz0 z h) (fun z h => free_push hD hA hz0 z h) (fun u t2 H1 locs ht hvm hw hB hz1 hk1 hS => ?_)
    obtain ⟨w1, ty1⟩ := u
    obtain ⟨t1, htq, rfl, rfl⟩ := hw
    obtain ⟨hP1, hK1, hD1⟩ := hB
    rw [ht] at hP1
    have hK := hK.app (va_K.moved hvm.symm hK1)
    rw [show ((cB, FieldType.object RX3) :: htl t i) ++ [(t1.2.2.1, FieldType.object RX0)] = (cB, FieldType.object RX3) :: htl (va_up t i t1) (i + 1) from congrArg (List.cons _) htl_push] at hK
    obtain ⟨hP, hD⟩ := join_push hP hD hA hz0 hk1 hP1 hD1
    rw [show hiF h0 b cB t i ++ stF t1 = [(h0, eH b), (b, eR cB 4 i (fun j => (t j).1))] ++ hpl (va_up t i t1) (i + 1) from by unfold hiF; rw [List.append_assoc, hpl_push]] at hP hD
    have hv : ([(h0, eH b), (b, eR cB 4 i (fun j => (t j).1))] ++ hpl (va_up t i t1) (i + 1))[22 * i + 0 + 1 + 1]? = some (q, eS t1.2.1) := by
      show (hpl (va_up t i t1) (i + 1))[22 * i + 0]? = _
      rw [hpl_at (i + 1) i 0 (by omega) (by decide), va_up_self, ← htq]
      rfl
    refine va_astq (D := D) hx hb hK hP hD hS 1 0 (22 * i + 0 + 1 + 1) 3 rfl rfl hv rfl (vp_in_nI hi4 (by decide)) dX2_init_31 (fun H locs hP hD hS => ?_)
    rw [up_refs (by omega), up_fst htq] at hP hD
    refine lv_iinc (v := nI (i + 1)) (lv' := [(1, .int (nI (i + 1))), (0, .ref h0)]) hx hb dX2_init_32 hl (k := 0) rfl (by rw [← nI_1]; rfl) (by decide) rfl (fun ls hl => ?_)
    refine lv_goto (tgt := 14) hx hb dX2_init_35 (by decide) ?_
    refine W.widen (k := 1 + 22 * (i + 1)) (n := 4 + 150 * (i + 1)) (by omega) (by omega) ?_
    exact ih (i + 1) (by omega) (va_up t i t1) H _ ls hl hK hP hD hS
set_option maxHeartbeats 4000000 in
set_option maxRecDepth 100000 in
/-- the history: its states -/
theorem i_hist (l : Launch) (D : va_G) (h0 sz : Nat) : Met l yX2_init (Cond.code yX2_init cX2_init 2 none :: lw_g) (rmR 4 89 604) (va_Pc [.ref h0] (MP D h0 sz eH0))
    (MK D (va_A [(h0, eH0)] sz) (fun ws tys => ∃ (b : Nat) (cB : ClassId) (t : Nat → sT), ws = hiF h0 b cB t 4 ∧ tys = (cB, .object RX3) :: htl t 4)) 89 604 (va_A [(h0, eH0)] sz) := by
  refine Met.ofW (cc := cX2_init) (maxL := 2) (ret := none) (by decide) rfl ?_
  intro p e s m args below meth c s₁ B hml hv
  obtain ⟨rfl, hsz, hP, hK, hN, hO0, hO3⟩ := hv
  have hx := B.exec
  have hb := B.bytes
  have hr := B.returns
  have hts0 := atoms_spec (ws := Cond.code yX2_init cX2_init 2 none :: lw_g) B.pre
  have hts : ∀ w ∈ lw_g, w.before #[Value.ref h0] s = true := fun w hw => hts0 w (List.mem_cons_of_mem _ hw)
  have hown : s.vm.findClass RX2 = some m.cls := findClass_of_methodNamed B.named
  have hlocks := B.notSynchronized
  have hin : meth.name = "<init>" := (name_of_methodNamed B.named B.method).1
  subst hsz
  generalize hAe : va_A [(h0, eH0)] s.heap.size = A
  have hA : ∀ q : Nat, s.heap.size ≤ q → A q := fun q h => by rw [← hAe]; exact Or.inr h
  have hD : va_D A [(h0, eH0)] := va_D1 (by rw [← hAe]; exact va_A1)
  have hS : va_S A s.heap s.heap [] := va_S.rf
  have hl := lv_entry ([.ref h0]) (n := 2) (Nat.le_of_ble_eq_true rfl)
  rw [lg_entry_eq]
  generalize (lg_sl ([.ref h0]) ++ List.replicate (2 - (lg_sl ([.ref h0])).length) Slot.unset).toArray = ls at hl ⊢
  have hl : lv_has ls 2 [(0, .ref h0)] := hl
  refine lv_aload_n hx hb dX2_init_0 rfl (lv_at hl 0 rfl) ?_
  refine W.objInit hx hb hown (hts _ ml_X2_3) (hts _ im_obj) (hts _ co_obj) rfl (by rw [hml]; exact hl.1) rfl dX2_init_1 (Nat.le_of_ble_eq_true rfl) (Nat.le_of_ble_eq_true rfl) ?_
  refine W.eq (g2 := F0 m 4 ls []) rfl ?_
  refine lv_aload_n hx hb dX2_init_4 rfl (lv_at hl 0 rfl) ?_
  refine lv_iconst (v := 4) hx hb dX2_init_5 (by decide) ?_
  refine va_newq (D := D) (N' := 4) hx hb hown (hts _ kl_X2_9) hO3 hK hP hD hS hA (by decide) (by decide) (Nat.le_of_ble_eq_true rfl) (Nat.le_of_ble_eq_true rfl) (Nat.le_of_ble_eq_true rfl) dX2_init_6 (fun b cB H hK hP hD hS => ?_)
  refine va_putF (D := D) (ci := 2) (v := .ref b) (ty := .array (.object RX3)) (C := RX2) (T := TX2) (N := 2) hx hb hts inX2 tyX2 tyX2_ok nmX2 hown hK hP hD hS 0 rfl rfl 0 (by decide) (hts _ fl_X2_11) (fun _ h9 => h9) rfl hin rfl (by decide +kernel) rfl rfl (Nat.le_of_ble_eq_true rfl) dX2_init_9 (fun H locs hP hD hS => ?_)
  refine lv_iconst (v := 0) hx hb dX2_init_12 (by decide) ?_
  refine lv_istore_n (lv' := [(1, .int (nI 0)), (0, .ref h0)]) hx hb dX2_init_13 rfl hl (by decide) rfl (fun ls hl => ?_)
  refine W.widen (k := 1 + 22 * 0) (n := 4 + 150 * 0) (by decide) (by decide) ?_
  refine hi_loop (A := A) (D := D) (b := b) (cB := cB) hx hb hml hown hts hN hO0 hO3 hA (fun t H locs ls hK hP hD hS => ?_) 4 0 rfl (fun _ => (0, 0, cB, fun _ => 0, fun _ => 0)) H _ ls hl ?_ ?_ ?_ hS
  · exact W.vret hx hb hr (fun t2 ht hW => ⟨⟨(_, _), rfl, ⟨b, cB, t, rfl, rfl⟩, by rw [ht]; exact hP, va_K.moved hW.alike hK, hD⟩, hS.F ht⟩) hS.2.2 dX2_init_38
  · exact hK
  · exact hP
  · exact hD
