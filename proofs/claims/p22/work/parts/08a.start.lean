/-! THE CLAIM OUT OF ONE WALK OF THE LAW'S BODY. Your part is whole_start (and what it stands on); all else here is the same for every law, but numbers. -/
def R_law : String := "RememberedCellsLaw"
def lw_P (b : Addr) (xs : List Int32) (args : Array Value) (s : State) : Prop := args = #[.ref b] ∧ s.IntsAt b xs ∧ xs.length ≤ 260 ∧ (Jvm.Cond.and given_1 narrow_1).before args s = true
def lw_Q (_ : Array Value) (s : State) (o : Outcome) (t : State) : Prop := o = .returned (some (.int 1)) ∧ Framed s o t [] 698626 7006370
def lw_Z (below : List Frame) (a : Array Value) (s : State) : State → Prop := fun t => ∃ o, t.status = .running ∧ Ended t below o ∧ lw_Q a s o t
/-- the law's own end, with 1 on the stack, nothing written that was there before, its room as the claim has it -/
theorem lw_ret {p : Program} {l : Launch} {e : Env} {s : State} {m : MethodId} {below : List Frame} {meth : Method} {c : Code} {b : Nat} (hx : p.tables.exec = Jvm.exec) (hb : c.code = code) (hr : meth.sig.returnType = ret) (hlocks : meth.locks = false) {pc : Nat} {H : Heap} {ls : Array Slot} (hdg : decode code pc = .ok (.ireturn, 1)) : W p l e room_1 s m #[Value.ref b] below meth c H [] 698626 7006370 (lw_Z below #[Value.ref b] s) (F0 m pc ls [.int 1]) := by
  intro T hT X
  obtain ⟨fs, hret, hrun, hended, hW, hframe⟩ := X.leave (v := some (.int 1)) (hlocks := hlocks) (fun h => by rw [hr] at h; cases h)
  have hmeth' : T.vm.method? m = some meth := X.method'
  refine ⟨T.setFrames fs, ?_, .returned (some (.int 1)), hrun, hended, rfl, ⟨_, rfl⟩, hW, hframe⟩
  jvm_step X.here [X.here.top, hx, hb, hdg, hmeth', hr, ret, narrow_b1]
  (try refine ⟨rfl, ?_⟩); (try refine ⟨rfl, ?_⟩)
  first | (intro acts; rw [hret _ acts rfl rfl rfl]) | rw [hret _ _ rfl rfl rfl]
  exact Steps.refl _
/-- what holds at the law's entry: the machine, the code, the tables' words (any of lw_tbl by 'hts w (by decide +kernel)'), the script of L ints xs at the cell b, what the Statement gives of the start (any of its parts by flat_of_before) -/
def lw_At (p : Program) (s : State) (m : MethodId) (meth : Method) (c : Code) (b L : Nat) (xs : Nat → Int32) : Prop :=
  p.tables.exec = Jvm.exec ∧ c.code = code ∧ meth.sig.returnType = ret ∧ c.maxLocals = 11 ∧ s.vm.findClass R_law = some m.cls ∧ (∀ w ∈ lw_tbl, w.before #[Value.ref b] s = true) ∧ va_X b L xs s s.heap ∧ b < s.heap.size ∧ meth.locks = false ∧ (Jvm.Cond.and given_1 narrow_1).before #[Value.ref b] s = true
theorem Nw_all {A : Array Value} {s : State} (h : ∀ w ∈ lw_tbl, w.before A s = true) : ∀ w ∈ lw_n, va_Nw w s := fun w hw => by
  have hx : ∃ a i x b, w = .methodLinkNest a i x b := by
    have hk : lw_nest w = true := (List.mem_filter.mp hw).2
    cases w <;> first | exact ⟨_, _, _, _, rfl⟩ | (simp [lw_nest] at hk; done)
  obtain ⟨a, i, x, b, rfl⟩ := hx
  exact va_Nw.of rfl (h _ (List.mem_filter.mp hw).1)
set_option maxHeartbeats 4000000 in
set_option maxRecDepth 100000 in
/-- THE LAW, from its entry -/
theorem whole_start {p : Program} {e : Env} {s : State} {m : MethodId} {below : List Frame} {meth : Method} {c : Code} (l : Launch) (hflags : l.flags = flags0) {b L : Nat} {xs : Nat → Int32} (hL : L ≤ 260) (C0 : lw_At p s m meth c b L xs) : W p l e room_1 s m #[Value.ref b] below meth c s.heap [] 0 0 (lw_Z below #[Value.ref b] s) (entryFrame m ([Value.ref b] : List Value).toArray 11) := by
  obtain ⟨hx, hb, hr, hml, hown, htt, hX, hbl, hlocks, hgv⟩ := id C0
  have hown : s.vm.findClass RL = some m.cls := hown
  have hts : ∀ w ∈ lw_g, w.before #[Value.ref b] s = true := fun w hw => htt w (List.mem_filter.mp hw).1
  have hN : ∀ w ∈ lw_n, va_Nw w s := Nw_all htt
  have hO0 : va_AO RX0 s := va_AO.of (htt (.arrayOver (.object RX0)) (List.mem_of_getElem? (i := 38) (by decide +kernel)))
  have hO3 : va_AO RX3 s := va_AO.of (htt (.arrayOver (.object RX3)) (List.mem_of_getElem? (i := 160) (by decide +kernel)))
  have hA : ∀ q : Nat, s.heap.size ≤ q → (fun q : Nat => s.heap.size ≤ q) q := fun _ h => h
  have hbA : ¬ (fun q : Nat => s.heap.size ≤ q) b := Nat.not_le.mpr hbl
  obtain ⟨c0, i0, k0⟩ := u_known (C := RX0) (T := TX0) (N := 8) (n := 8) hts inX0 (hts _ ia_X0)
  obtain ⟨c1, i1, k1⟩ := u_known (C := RX1) (T := TX1) (N := 5) (n := 5) hts inX1 (hts _ ia_X1)
  obtain ⟨c2, i2, k2⟩ := u_known (C := RX2) (T := TX2) (N := 2) (n := 2) hts inX2 (hts _ ia_X2)
  obtain ⟨c3, i3, k3⟩ := u_known (C := RX3) (T := TX3) (N := 10) (n := 10) hts inX3 (hts _ ia_X3)
  obtain ⟨c4, i4, k4⟩ := u_known (C := RX4) (T := TX4) (N := 5) (n := 5) hts inX4 (hts _ ia_X4)
  obtain ⟨c5, i5, k5⟩ := u_known (C := RX5) (T := TX5) (N := 5) (n := 5) hts inX5 (hts _ ia_X5)
  obtain ⟨D, hKc⟩ : ∃ D : va_G, ∀ (k : Nat) (q : vw_C), vwCl[k]? = some q → u_Kn s q.1 q.2.1 q.2.2 (D.1 k) (D.2 k) := by
    refine ⟨(fun k => match k with | 0 => c0 | 1 => c1 | 2 => c2 | 3 => c3 | 4 => c4 | _ => c5, fun k => match k with | 0 => i0 | 1 => i1 | 2 => i2 | 3 => i3 | 4 => i4 | _ => i5), ?_⟩
    intro k q hq
    match k, hq with
    | 0, hq => cases hq; exact k0
    | 1, hq => cases hq; exact k1
    | 2, hq => cases hq; exact k2
    | 3, hq => cases hq; exact k3
    | 4, hq => cases hq; exact k4
    | 5, hq => cases hq; exact k5
    | k + 6, hq => simp [vwCl] at hq
  have hS : va_S (fun q : Nat => s.heap.size ≤ q) s.heap s.heap [] := va_S.rf
  have hK : va_K D vwCl [] s := ⟨hKc, fun k q h => by simp at h⟩
  have hP : va_P D vwCl [] s.heap := fun k q h => by simp at h
  have hD : va_D (fun q : Nat => s.heap.size ≤ q) [] := ⟨fun i j p q h => by simp at h, fun k q h => by simp at h⟩
  have hl := lv_entry ([.ref b]) (n := 11) (Nat.le_of_ble_eq_true rfl)
  rw [lg_entry_eq]
  generalize (lg_sl ([.ref b]) ++ List.replicate (11 - (lg_sl ([.ref b])).length) Slot.unset).toArray = ls at hl ⊢
  have hl : lv_has ls 11 [(0, .ref b)] := hl
  refine va_new (D := D) (C := RX5) (T := TX5) (N := 5) (ci := 5) (own := RL) hx hb hts inX5 tyX5 tyX5_ok hown (hts _ kl_L_14) (hts _ ia_X5) (hts _ in_X5) hK hP hD hS hA rfl (fs := [.null, .null, .null, .null, .null]) (by decide) (Nat.le_of_ble_eq_true rfl) (Nat.le_of_ble_eq_true rfl) dL_law_0 (fun q0 H hP hD hS => ?_)
  refine lv_dup hx hb dL_law_3 rfl ?_
  have hz0 := hS.1
  refine va_callv (va_runI (As := []) (rest := [.ref q0]) (Ts := lw_g) (own := RL) ⟨hx, hb, hml, hown, hts⟩ (i_main l D q0 H.size) (cwI 0 hts (rc_good co_X5_init) rfl rfl rfl (hts _ in_X5) (hts _ ml_L_82) (hts _ im_X5_init) rfl rc_X5_init ⟨Nat.le_of_ble_eq_true rfl, Nat.le_of_ble_eq_true rfl⟩) ⟨MP_blind, fun U hU hW => ⟨rfl, MP_at hP hK hN hO0 hO3 hU hW⟩⟩ rfl rfl hl.1 rfl (lv_room (Nat.le_of_ble_eq_true rfl)) dL_law_4 ⟨Nat.le_of_ble_eq_true rfl, Nat.le_of_ble_eq_true rfl⟩) hS (fun z _ h => free_push hD hA hz0 z h) (fun z h => free_push hD hA hz0 z h) (fun u s1 H1 locs ht hvm hw hB hz1 hk1 hS => ?_)
  obtain ⟨w1, ty1⟩ := u
  obtain ⟨t0, t1, h, d0, cB, t, x, ch, d, cC, g, rfl, rfl⟩ := hw
  obtain ⟨hP1, hK1, hD1⟩ := hB
  rw [ht] at hP1
  have hKC := va_K.moved hvm.symm hK1
  obtain ⟨hP, hD⟩ := join_push hP hD hA hz0 hk1 hP1 hD1
  have hP : va_P D vwCl (mnF q0 t0 t1 h d0 cB t x ch d cC g) H1 := hP
  have hD : va_D (fun q : Nat => s.heap.size ≤ q) (mnF q0 t0 t1 h d0 cB t x ch d cC g) := hD
  refine lv_astore_n (lv' := [(1, .ref q0), (0, .ref b)]) hx hb dL_law_7 rfl hl (by decide) rfl (fun ls hl => ?_)
  obtain ⟨YC, hYC⟩ : ∃ Y : rcY, Y = mnY q0 (mT t0 t1 t) h d0 cB x ch d cC g D := ⟨_, rfl⟩
  have hPC : rcW shC 139 YC vC0 H1 := by rw [hYC]; exact mn_P hP
  have iC : ∀ i j, i < 139 → j < 139 → YC.2.1 i = YC.2.1 j → i = j := by rw [hYC]; exact mn_inj hD
  have aC : ∀ q, rcA 139 YC q → s.heap.size ≤ q := by
    rw [hYC]
    rintro q ⟨id, hid, rfl⟩
    obtain ⟨e1, h1, -⟩ := mn_id (D := D) (h0 := q0) (t0 := t0) (t1 := t1) (h := h) (b := d0) (cB := cB) (t := t) (x := x) (ch := ch) (d := d) (cC := cC) (g := g) hid
    exact hD.2 _ _ h1
  have tC : ∀ id y n, id < 139 → shC id = .inr (y, n) → ArrOfT s (YC.1 id) (rcty y) ∧ va_RA s (YC.1 id) (rcty y) := by rw [hYC]; exact mn_K hKC
  have e0 : YC.2.1 0 = q0 := by rw [hYC]; rfl
  have kC : YC.2.2 = D := by rw [hYC]; rfl
  have FC : rcF shC 139 YC (p, l, e, room_1, s, m, #[Value.ref b], below, meth, c, 11, 139, 986) cL_law RL ret 60 := ⟨⟨hx, hb⟩, hts, hown, hml, hr, hlocks, ⟨iC, by rw [kC]; exact hK, tC, hN⟩, Nat.le_of_ble_eq_true rfl, Nat.le_of_ble_eq_true rfl, Nat.le_of_ble_eq_true rfl, Nat.le_of_ble_eq_true rfl⟩
  have fin : ∀ (lo : List (Nat × Value)) (v : rcM), rcG (p, l, e, room_1, s, m, #[Value.ref b], below, meth, c, 11, 139, 986) (rcW shC 139 YC) (fun q : Nat => s.heap.size ≤ q) (lw_Z below #[Value.ref b] s) 271 lo [.int 1] v := by
    intro lo v H2 locs2 ls2 hl2 hw2 hS2
    refine va_forget (fun q hq => hS2.2.2 q hq) ?_
    refine W.widen (k := 698626) (n := 7006370) (Nat.le_of_ble_eq_true rfl) (Nat.le_of_ble_eq_true rfl) ?_
    exact lw_ret hx hb hr hlocks dL_law_271
  have hl : lv_has ls 11 [(1, .ref (YC.2.1 0)), (0, .ref b)] := by
    rw [e0]
    exact hl
  exact law_body hL FC rfl aC hX hbl hbA fin H1 _ ls hl hPC hS
