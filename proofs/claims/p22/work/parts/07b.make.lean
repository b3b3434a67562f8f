/-! Making: what comes back of an init beside what was there. -/
theorem push_at {ws : va_W} {q : Nat × va_E} : (ws ++ [q])[ws.length]? = some q := by simp
theorem join_push {A0 : Nat → Prop} {D : va_G} {cl : List vw_C} {ws w1 : va_W} {q : Nat} {e : va_E} {H0 H H1 : Heap} (hP : va_P D cl (ws ++ [(q, e)]) H) (hD : va_D A0 (ws ++ [(q, e)])) (hA : ∀ x : Nat, H0.size ≤ x → A0 x) (hz : H0.size ≤ H.size)
    (hk : ∀ x : Nat, x < H.size → ¬ va_A [(q, e)] H.size x → H1[x]? = H[x]?) (hP1 : va_P D cl w1 H1) (hD1 : va_D (va_A [(q, e)] H.size) w1) : va_P D cl (ws ++ w1) H1 ∧ va_D A0 (ws ++ w1) := by
  have hin : ∀ (k : Nat) (z : Nat × va_E), ws[k]? = some z → (ws ++ [(q, e)])[k]? = some z := fun k z hz => by
    rw [List.getElem?_append_left (List.getElem?_eq_some_iff.mp hz).1]
    exact hz
  have hlt : ∀ (k : Nat) (z : Nat × va_E), ws[k]? = some z → z.1 < H.size := fun k z hz => va_at.lt (hP k z (hin k z hz))
  have hne : ∀ (k : Nat) (z : Nat × va_E), ws[k]? = some z → z.1 ≠ q := fun k z hz he => by
    have h1 := hD.1 k ws.length z (q, e) (hin k z hz) push_at he
    have h2 := (List.getElem?_eq_some_iff.mp hz).1
    omega
  have hnA : ∀ (k : Nat) (z : Nat × va_E), ws[k]? = some z → ¬ va_A [(q, e)] H.size z.1 := fun k z hz hA' => by
    rcases hA' with ⟨k', e', hk'⟩ | h
    · cases k' with
      | zero =>
        have : (q, e) = (z.1, e') := Option.some.inj hk'
        exact hne k z hz (congrArg Prod.fst this).symm
      | succ k' => simp at hk'
    · have := hlt k z hz
      omega
  have hq : A0 q := hD.2 ws.length (q, e) push_at
  refine ⟨va_P.app (va_P.kept (fun k z hz => hP k z (hin k z hz)) (fun k z hz => hk z.1 (hlt k z hz) (hnA k z hz))) hP1, va_D.app ⟨fun i j a b ha hb hab => hD.1 i j a b (hin i a ha) (hin j b hb) hab, fun k z hz => hD.2 k z (hin k z hz)⟩ (hD1.weaken (fun k z hz hA' => ?_)) (fun i j a b ha hb hab => hnA i a ha (by rw [hab]; exact hD1.2 j b hb))⟩
  rcases hA' with ⟨k', e', hk'⟩ | h
  · cases k' with
    | zero =>
      have : (q, e) = (z.1, e') := Option.some.inj hk'
      rw [← congrArg Prod.fst this]
      exact hq
    | succ k' => simp at hk'
  · exact hA z.1 (by omega)
theorem free_push {A0 : Nat → Prop} {ws : va_W} {q : Nat} {e : va_E} {H0 H : Heap} (hD : va_D A0 (ws ++ [(q, e)])) (hA : ∀ x : Nat, H0.size ≤ x → A0 x) (hz : H0.size ≤ H.size) : ∀ z, va_A [(q, e)] H.size z → A0 z := fun z h => by
  rcases h with ⟨k', e', hk'⟩ | h
  · cases k' with
    | zero =>
      have : (q, e) = (z, e') := Option.some.inj hk'
      have e1 : q = z := congrArg Prod.fst this
      rw [← e1]
      exact hD.2 ws.length (q, e) push_at
    | succ k' => simp at hk'
  · exact hA z (by omega)
def rmR (fr ce sl : Nat) : Room := { frames := fr, cells := ce, slots := sl, locals := 40 * fr }
/-- what an init meets: its own object, new -/
def MP (D : va_G) (h0 sz : Nat) (e : va_E) : State → Prop := fun U => U.heap.size = sz ∧ va_P D vwCl [(h0, e)] U.heap ∧ va_K D vwCl [] U ∧ (∀ w ∈ lw_n, va_Nw w U) ∧ va_AO RX0 U ∧ va_AO RX3 U
/-- what it leaves -/
def MK (D : va_G) (A : Nat → Prop) (form : va_W → List (ClassId × FieldType) → Prop) : Array Value → State → Outcome → State → Prop :=
  va_Qv (S := va_W × List (ClassId × FieldType)) (fun u => form u.1 u.2) (fun u t => va_P D vwCl u.1 t.heap ∧ va_K D vwCl u.2 t ∧ va_D A u.1) A
theorem va_D1 {A : Nat → Prop} {a : Nat} {e : va_E} (h : A a) : va_D A [(a, e)] := by
  refine ⟨fun i j p q hi hj _ => ?_, fun k q hk => ?_⟩
  · have h1 := (List.getElem?_eq_some_iff.mp hi).1
    have h2 := (List.getElem?_eq_some_iff.mp hj).1
    simp at h1 h2
    omega
  · cases k with
    | zero => rw [← Option.some.inj hk]; exact h
    | succ k => simp at hk
theorem va_A1 {a sz : Nat} {e : va_E} : va_A [(a, e)] sz a := Or.inl ⟨0, e, rfl⟩
theorem Nw_moved {U : State} {s : State} (hW : s.WarmedH U.vm) (h : ∀ w ∈ lw_n, va_Nw w s) : ∀ w ∈ lw_n, va_Nw w U := fun w hw => by
  have hx : ∃ a i x b, w = .methodLinkNest a i x b := by
    have hk : lw_nest w = true := (List.mem_filter.mp hw).2
    cases w <;> first | exact ⟨_, _, _, _, rfl⟩ | (simp [lw_nest] at hk; done)
  obtain ⟨a, i, x, b, rfl⟩ := hx
  exact va_Nw.warmM hW (h _ hw)
theorem Nw_calling {U : State} {g : JFrame} {mk : MethodId} {a : Array Value} (h : ∀ w ∈ lw_n, va_Nw w U) : ∀ w ∈ lw_n, va_Nw w (U.calling g mk a) := fun w hw => by
  have hx : ∃ a i x b, w = .methodLinkNest a i x b := by
    have hk : lw_nest w = true := (List.mem_filter.mp hw).2
    cases w <;> first | exact ⟨_, _, _, _, rfl⟩ | (simp [lw_nest] at hk; done)
  obtain ⟨a', i, x, b, rfl⟩ := hx
  exact va_Nw.same rfl (u := U) (U := U.calling g mk a) rfl (h _ hw)
set_option maxHeartbeats 4000000 in
set_option maxRecDepth 100000 in
theorem i_def (l : Launch) (D : va_G) (h0 sz : Nat) : Met l yX1_init (Cond.code yX1_init cX1_init 1 none :: lw_g) (rmR 1 0 0) (va_Pc [.ref h0] (MP D h0 sz (.inr (1, [.int 0, .int 0, .int 0, .int 0, .int 0]))))
    (MK D (va_A [(h0, .inr (1, [.int 0, .int 0, .int 0, .int 0, .int 0]))] sz) (fun ws tys => ws = [(h0, .inr (1, [.int (-1), .int 0, .int 0, .int 0, .int 0]))] ∧ tys = [])) 0 0 (va_A [(h0, .inr (1, [.int 0, .int 0, .int 0, .int 0, .int 0]))] sz) := by
  refine Met.ofW (cc := cX1_init) (maxL := 1) (ret := none) (by decide) rfl ?_
  intro p e s m args below meth c s₁ B hml hv
  obtain ⟨rfl, hsz, hP, hK, -, -, -⟩ := hv
  have hx := B.exec
  have hb := B.bytes
  have hr := B.returns
  have hts0 := atoms_spec (ws := Cond.code yX1_init cX1_init 1 none :: lw_g) B.pre
  have hts : ∀ w ∈ lw_g, w.before #[Value.ref h0] s = true := fun w hw => hts0 w (List.mem_cons_of_mem _ hw)
  have hown : s.vm.findClass RX1 = some m.cls := findClass_of_methodNamed B.named
  have hlocks := B.notSynchronized
  subst hsz
  generalize hAe : va_A [(h0, .inr (1, [.int 0, .int 0, .int 0, .int 0, .int 0]))] s.heap.size = A
  have hA : ∀ q : Nat, s.heap.size ≤ q → A q := fun q h => by rw [← hAe]; exact Or.inr h
  have hA0 : A h0 := by rw [← hAe]; exact va_A1
  have hD : va_D A [(h0, (.inr (1, [.int 0, .int 0, .int 0, .int 0, .int 0]) : va_E))] := va_D1 hA0
  have hS : va_S A s.heap s.heap [] := va_S.rf
  have hl := lv_entry ([.ref h0]) (n := 1) (Nat.le_of_ble_eq_true rfl)
  rw [lg_entry_eq]
  generalize (lg_sl ([.ref h0]) ++ List.replicate (1 - (lg_sl ([.ref h0])).length) Slot.unset).toArray = ls at hl ⊢
  have hl : lv_has ls 1 [(0, .ref h0)] := hl
  refine lv_aload_n hx hb dX1_init_0 rfl (lv_at hl 0 rfl) ?_
  refine W.objInit hx hb hown (hts _ ml_X1_3) (hts _ im_obj) (hts _ co_obj) rfl (by rw [hml]; exact hl.1) rfl dX1_init_1 (Nat.le_of_ble_eq_true rfl) (Nat.le_of_ble_eq_true rfl) ?_
  refine W.eq (g2 := F0 m 4 ls []) rfl ?_
  refine lv_aload_n hx hb dX1_init_4 rfl (lv_at hl 0 rfl) ?_
  refine lv_iconst (v := -1) hx hb dX1_init_5 (by decide) ?_
  refine va_put (D := D) (ci := 1) (v := .int (-1)) (ty := .int) (C := RX1) (T := TX1) (N := 5) hx hb hts inX1 tyX1 tyX1_ok nmX1 hown hK hP hD hS 0 rfl rfl 0 (by decide) (hts _ fl_X1_9) (fun _ h9 => h9) rfl (by decide +kernel) rfl rfl (Nat.le_of_ble_eq_true rfl) dX1_init_6 (fun H locs hP hD hS => ?_)
  exact W.vret hx hb hr (fun t ht hW => ⟨⟨([(h0, .inr (1, [.int (-1), .int 0, .int 0, .int 0, .int 0]))], []), rfl, ⟨rfl, rfl⟩, by rw [ht]; exact hP, va_K.moved hW.alike hK, hD⟩, hS.F ht⟩) hS.2.2 dX1_init_9
set_option maxHeartbeats 4000000 in
set_option maxRecDepth 100000 in
/-- a cell: itself and its definition -/
theorem i_cell (l : Launch) (D : va_G) (h0 sz : Nat) : Met l yX0_init (Cond.code yX0_init cX0_init 1 none :: lw_g) (rmR 2 1 5) (va_Pc [.ref h0] (MP D h0 sz (.inr (0, [.null, .int 0, .int 0, .int 0, .int 0, .int 0, .int 0, .int 0]))))
    (MK D (va_A [(h0, .inr (0, [.null, .int 0, .int 0, .int 0, .int 0, .int 0, .int 0, .int 0]))] sz) (fun ws tys => (∃ d, ws = [(h0, .inr (0, [.ref d, .int 0, .int 0, .int 0, .int 0, .int (-1), .int 0, .int 0])), (d, .inr (1, [.int (-1), .int 0, .int 0, .int 0, .int 0]))]) ∧ tys = [])) 1 5 (va_A [(h0, .inr (0, [.null, .int 0, .int 0, .int 0, .int 0, .int 0, .int 0, .int 0]))] sz) := by
  refine Met.ofW (cc := cX0_init) (maxL := 1) (ret := none) (by decide) rfl ?_
  intro p e s m args below meth c s₁ B hml hv
  obtain ⟨rfl, hsz, hP, hK, hN, hO0, hO3⟩ := hv
  have hx := B.exec
  have hb := B.bytes
  have hr := B.returns
  have hts0 := atoms_spec (ws := Cond.code yX0_init cX0_init 1 none :: lw_g) B.pre
  have hts : ∀ w ∈ lw_g, w.before #[Value.ref h0] s = true := fun w hw => hts0 w (List.mem_cons_of_mem _ hw)
  have hown : s.vm.findClass RX0 = some m.cls := findClass_of_methodNamed B.named
  have hlocks := B.notSynchronized
  have hin : meth.name = "<init>" := (name_of_methodNamed B.named B.method).1
  subst hsz
  generalize hAe : va_A [(h0, .inr (0, [.null, .int 0, .int 0, .int 0, .int 0, .int 0, .int 0, .int 0]))] s.heap.size = A
  have hA : ∀ q : Nat, s.heap.size ≤ q → A q := fun q h => by rw [← hAe]; exact Or.inr h
  have hD : va_D A [(h0, (.inr (0, [.null, .int 0, .int 0, .int 0, .int 0, .int 0, .int 0, .int 0]) : va_E))] := va_D1 (by rw [← hAe]; exact va_A1)
  have hS : va_S A s.heap s.heap [] := va_S.rf
  have hl := lv_entry ([.ref h0]) (n := 1) (Nat.le_of_ble_eq_true rfl)
  rw [lg_entry_eq]
  generalize (lg_sl ([.ref h0]) ++ List.replicate (1 - (lg_sl ([.ref h0])).length) Slot.unset).toArray = ls at hl ⊢
  have hl : lv_has ls 1 [(0, .ref h0)] := hl
  refine lv_aload_n hx hb dX0_init_0 rfl (lv_at hl 0 rfl) ?_
  refine W.objInit hx hb hown (hts _ ml_X0_3) (hts _ im_obj) (hts _ co_obj) rfl (by rw [hml]; exact hl.1) rfl dX0_init_1 (Nat.le_of_ble_eq_true rfl) (Nat.le_of_ble_eq_true rfl) ?_
  refine W.eq (g2 := F0 m 4 ls []) rfl ?_
  refine lv_aload_n hx hb dX0_init_4 rfl (lv_at hl 0 rfl) ?_
  refine va_new (D := D) (C := RX1) (T := TX1) (N := 5) (ci := 1) (own := RX0) hx hb hts inX1 tyX1 tyX1_ok hown (hts _ kl_X0_9) (hts _ ia_X1) (hts _ in_X1) hK hP hD hS hA rfl (fs := [.int 0, .int 0, .int 0, .int 0, .int 0]) (by decide) (Nat.le_of_ble_eq_true rfl) (Nat.le_of_ble_eq_true rfl) dX0_init_5 (fun q H hP hD hS => ?_)
  refine lv_dup hx hb dX0_init_8 rfl ?_
  have hz0 := hS.1
  refine va_callv (va_runIN (As := []) (rest := [.ref q, .ref h0]) (Ts := lw_g) (own := RX0) (host := RX5) ⟨hx, hb, hml, hown, hts⟩ (i_def l D q H.size) ⟨va_cnB 0 hts (rc_good co_X1_init) rfl rfl rfl (hN _ mn_X0_11) (hts _ in_X1) rc_X1_init ⟨by decide, by decide⟩, rfl, hts _ im_X1_init⟩ ⟨fun a U g mk z => by obtain ⟨z0, z1, zP, zK, zN, zO⟩ := z; exact ⟨z0, z1, zP, va_K.moved (u := U) (U := U.calling g mk a) (Vm.Alike.refl U.vm) zK, Nw_calling zN, zO⟩, fun U hU hW => ⟨rfl, by rw [hU], by rw [hU]; exact hP.sub [1] rfl, va_K.moved hW.alike hK, Nw_moved hW hN, va_AO.moved hW.alike hO0, va_AO.moved hW.alike hO3⟩⟩ rfl rfl hl.1 rfl (lv_room (Nat.le_of_ble_eq_true rfl)) dX0_init_9 ⟨Nat.le_of_ble_eq_true rfl, Nat.le_of_ble_eq_true rfl⟩) hS (fun z _ h => ?_) (fun z h => ?_) (fun u t H1 locs ht hvm hw hB hz1 hk1 hS => ?_)
  · exact free_push hD hA hS.1 z h
  · exact free_push hD hA hS.1 z h
  · obtain ⟨w1, t1⟩ := u
    obtain ⟨rfl, rfl⟩ := hw
    obtain ⟨hP1, hK1, hD1⟩ := hB
    rw [ht] at hP1
    obtain ⟨hP, hD⟩ := join_push hP hD hA hz0 hk1 hP1 hD1
    have hP : va_P D vwCl [(h0, .inr (0, [.null, .int 0, .int 0, .int 0, .int 0, .int 0, .int 0, .int 0])), (q, .inr (1, [.int (-1), .int 0, .int 0, .int 0, .int 0]))] H1 := hP
    have hD : va_D A [(h0, (.inr (0, [.null, .int 0, .int 0, .int 0, .int 0, .int 0, .int 0, .int 0]) : va_E)), (q, .inr (1, [.int (-1), .int 0, .int 0, .int 0, .int 0]))] := hD
    refine va_putF (D := D) (ci := 0) (v := .ref q) (ty := .object RX1) (C := RX0) (T := TX0) (N := 8) hx hb hts inX0 tyX0 tyX0_ok nmX0 hown hK hP hD hS 0 rfl rfl 0 (by decide) (hts _ fl_X0_12) (fun _ h9 => h9) rfl hin rfl (by decide +kernel) rfl rfl (Nat.le_of_ble_eq_true rfl) dX0_init_12 (fun H locs hP hD hS => ?_)
    refine lv_aload_n hx hb dX0_init_15 rfl (lv_at hl 0 rfl) ?_
    refine lv_iconst (v := -1) hx hb dX0_init_16 (by decide) ?_
    refine va_put (D := D) (ci := 0) (v := .int (-1)) (ty := .int) (C := RX0) (T := TX0) (N := 8) hx hb hts inX0 tyX0 tyX0_ok nmX0 hown hK hP hD hS 0 rfl rfl 5 (by decide) (hts _ fl_X0_18) (fun _ h9 => h9) rfl (by decide +kernel) rfl rfl (Nat.le_of_ble_eq_true rfl) dX0_init_17 (fun H locs hP hD hS => ?_)
    exact W.vret hx hb hr (fun t ht hW => ⟨⟨(_, []), rfl, ⟨⟨q, rfl⟩, rfl⟩, by rw [ht]; exact hP, va_K.moved hW.alike hK, hD⟩, hS.F ht⟩) hS.2.2 dX0_init_20
set_option maxHeartbeats 4000000 in
set_option maxRecDepth 100000 in
/-- a text: itself, its characters, its definition -/
theorem i_text (l : Launch) (D : va_G) (h0 sz : Nat) : Met l yX4_init (Cond.code yX4_init cX4_init 1 none :: lw_g) (rmR 2 2 65) (va_Pc [.ref h0] (MP D h0 sz (.inr (4, [.null, .int 0, .int 0, .int 0, .null]))))
    (MK D (va_A [(h0, .inr (4, [.null, .int 0, .int 0, .int 0, .null]))] sz) (fun ws tys => ∃ a d cA, ws = [(h0, .inr (4, [.ref a, .int 0, .int 0, .int 0, .ref d])), (a, .inl (cA, 60, .inl (fun _ => 0))), (d, .inr (1, [.int (-1), .int 0, .int 0, .int 0, .int 0]))] ∧ tys = [(cA, .char)])) 2 65 (va_A [(h0, .inr (4, [.null, .int 0, .int 0, .int 0, .null]))] sz) := by
  refine Met.ofW (cc := cX4_init) (maxL := 1) (ret := none) (by decide) rfl ?_
  intro p e s m args below meth c s₁ B hml hv
  obtain ⟨rfl, hsz, hP, hK, hN, hO0, hO3⟩ := hv
  have hx := B.exec
  have hb := B.bytes
  have hr := B.returns
  have hts0 := atoms_spec (ws := Cond.code yX4_init cX4_init 1 none :: lw_g) B.pre
  have hts : ∀ w ∈ lw_g, w.before #[Value.ref h0] s = true := fun w hw => hts0 w (List.mem_cons_of_mem _ hw)
  have hown : s.vm.findClass RX4 = some m.cls := findClass_of_methodNamed B.named
  have hlocks := B.notSynchronized
  have hin : meth.name = "<init>" := (name_of_methodNamed B.named B.method).1
  subst hsz
  generalize hAe : va_A [(h0, .inr (4, [.null, .int 0, .int 0, .int 0, .null]))] s.heap.size = A
  have hA : ∀ q : Nat, s.heap.size ≤ q → A q := fun q h => by rw [← hAe]; exact Or.inr h
  have hD : va_D A [(h0, (.inr (4, [.null, .int 0, .int 0, .int 0, .null]) : va_E))] := va_D1 (by rw [← hAe]; exact va_A1)
  have hS : va_S A s.heap s.heap [] := va_S.rf
  have hl := lv_entry ([.ref h0]) (n := 1) (Nat.le_of_ble_eq_true rfl)
  rw [lg_entry_eq]
  generalize (lg_sl ([.ref h0]) ++ List.replicate (1 - (lg_sl ([.ref h0])).length) Slot.unset).toArray = ls at hl ⊢
  have hl : lv_has ls 1 [(0, .ref h0)] := hl
  refine lv_aload_n hx hb dX4_init_0 rfl (lv_at hl 0 rfl) ?_
  refine W.objInit hx hb hown (hts _ ml_X4_3) (hts _ im_obj) (hts _ co_obj) rfl (by rw [hml]; exact hl.1) rfl dX4_init_1 (Nat.le_of_ble_eq_true rfl) (Nat.le_of_ble_eq_true rfl) ?_
  refine W.eq (g2 := F0 m 4 ls []) rfl ?_
  refine lv_aload_n hx hb dX4_init_4 rfl (lv_at hl 0 rfl) ?_
  refine lv_bipush (v := 60) hx hb dX4_init_5 (by decide) ?_
  refine va_newa (D := D) (atype := .char) (ty := .char) (N' := 60) (a0 := (60, .inl (fun _ => 0))) hx hb (hts _ ac_char) rfl hK hP hD hS hA (fun _ => rfl) (by decide) (by decide) (Nat.le_of_ble_eq_true rfl) (Nat.le_of_ble_eq_true rfl) (Nat.le_of_ble_eq_true rfl) dX4_init_7 (fun a cA H hK hP hD hS => ?_)
  refine va_putF (D := D) (ci := 4) (v := .ref a) (ty := .array .char) (C := RX4) (T := TX4) (N := 5) hx hb hts inX4 tyX4 tyX4_ok nmX4 hown hK hP hD hS 0 rfl rfl 0 (by decide) (hts _ fl_X4_9) (fun _ h9 => h9) rfl hin rfl (by decide +kernel) rfl rfl (Nat.le_of_ble_eq_true rfl) dX4_init_9 (fun H locs hP hD hS => ?_)
  refine lv_aload_n hx hb dX4_init_12 rfl (lv_at hl 0 rfl) ?_
  refine va_new (D := D) (C := RX1) (T := TX1) (N := 5) (ci := 1) (own := RX4) hx hb hts inX1 tyX1 tyX1_ok hown (hts _ kl_X4_15) (hts _ ia_X1) (hts _ in_X1) hK hP hD hS hA rfl (fs := [.int 0, .int 0, .int 0, .int 0, .int 0]) (by decide) (Nat.le_of_ble_eq_true rfl) (Nat.le_of_ble_eq_true rfl) dX4_init_13 (fun q H hP hD hS => ?_)
  refine lv_dup hx hb dX4_init_16 rfl ?_
  have hz0 := hS.1
  refine va_callv (va_runIN (As := []) (rest := [.ref q, .ref h0]) (Ts := lw_g) (own := RX4) (host := RX5) ⟨hx, hb, hml, hown, hts⟩ (i_def l D q H.size) ⟨va_cnB 0 hts (rc_good co_X1_init) rfl rfl rfl (hN _ mn_X4_17) (hts _ in_X1) rc_X1_init ⟨by decide, by decide⟩, rfl, hts _ im_X1_init⟩ ⟨fun a U g mk z => by obtain ⟨z0, z1, zP, zK, zN, zO⟩ := z; exact ⟨z0, z1, zP, va_K.moved (u := U) (U := U.calling g mk a) (Vm.Alike.refl U.vm) zK, Nw_calling zN, zO⟩, fun U hU hW => ⟨rfl, by rw [hU], by rw [hU]; exact hP.sub [2] rfl, va_K.moved hW.alike (hK.sub [] rfl), Nw_moved hW hN, va_AO.moved hW.alike hO0, va_AO.moved hW.alike hO3⟩⟩ rfl rfl hl.1 rfl (lv_room (Nat.le_of_ble_eq_true rfl)) dX4_init_17 ⟨Nat.le_of_ble_eq_true rfl, Nat.le_of_ble_eq_true rfl⟩) hS (fun z _ h => free_push hD hA hz0 z h) (fun z h => free_push hD hA hz0 z h) (fun u t H1 locs ht hvm hw hB hz1 hk1 hS => ?_)
  obtain ⟨w1, t1⟩ := u
  obtain ⟨rfl, rfl⟩ := hw
  obtain ⟨hP1, hK1, hD1⟩ := hB
  rw [ht] at hP1
  obtain ⟨hP, hD⟩ := join_push hP hD hA hz0 hk1 hP1 hD1
  have hP : va_P D vwCl [(h0, .inr (4, [.ref a, .int 0, .int 0, .int 0, .null])), (a, .inl (cA, 60, .inl (fun _ => 0))), (q, .inr (1, [.int (-1), .int 0, .int 0, .int 0, .int 0]))] H1 := hP
  have hD : va_D A [(h0, (.inr (4, [.ref a, .int 0, .int 0, .int 0, .null]) : va_E)), (a, .inl (cA, 60, .inl (fun _ => 0))), (q, .inr (1, [.int (-1), .int 0, .int 0, .int 0, .int 0]))] := hD
  refine va_putF (D := D) (ci := 4) (v := .ref q) (ty := .object RX1) (C := RX4) (T := TX4) (N := 5) hx hb hts inX4 tyX4 tyX4_ok nmX4 hown hK hP hD hS 0 rfl rfl 4 (by decide) (hts _ fl_X4_18) (fun _ h9 => h9) rfl hin rfl (by decide +kernel) rfl rfl (Nat.le_of_ble_eq_true rfl) dX4_init_20 (fun H locs hP hD hS => ?_)
  exact W.vret hx hb hr (fun t ht hW => ⟨⟨(_, _), rfl, ⟨a, q, cA, rfl, rfl⟩, by rw [ht]; exact hP, va_K.moved hW.alike hK, hD⟩, hS.F ht⟩) hS.2.2 dX4_init_23
