/-! Contracts over a world of fixed shape, and the rows of fields, arrays, calls and returns. -/
/-- a method: its name, code, locals, what it returns -/
abbrev rcD : Type := MethodName × ByteArray × Nat × Option FieldType
def rcR (d : Nat) : Room := { frames := d, cells := 0, slots := 0, locals := 40 * d }
def rcQ (sh : rcH) (N : Nat) (Y : rcY) (K : Option Value → rcM → Prop) : Array Value → State → Outcome → State → Prop := fun _ st oc t => (∃ (r : Option Value) (u : rcM), oc = .returned r ∧ K r u ∧ rcW sh N Y u t.heap) ∧ va_F (rcA N Y) st t
/-- the contract: called with 'as' over the world v, the method returns, and K holds of its answer and the new world -/
def rcT (sh : rcH) (N : Nat) (Y : rcY) (la : Launch) (d : Nat) (M : rcD) (as : List Value) (v : rcM) (K : Option Value → rcM → Prop) : Prop :=
  Met la M.1 (Cond.code M.1 M.2.1 M.2.2.1 M.2.2.2 :: lw_g) (rcR d) (va_Pc as (fun U => rcW sh N Y v U.heap ∧ rcK sh N Y U)) (rcQ sh N Y K) 0 0 (rcA N Y)
abbrev rI (x : Int32) (u : rcM) : Option Value → rcM → Prop := fun r w => r = some (.int x) ∧ w = u
abbrev rV (u : rcM) : Option Value → rcM → Prop := fun r w => r = none ∧ w = u
/-- the facts of a walk -/
def rcF (sh : rcH) (N : Nat) (Y : rcY) (X : rcX) (cc : ByteArray) (own : String) (rt : Option FieldType) (d : Nat) : Prop :=
  rcE X cc ∧ (∀ w ∈ lw_g, w.before (xa X) (xs X) = true) ∧ (xs X).vm.findClass own = some (xm X).cls ∧ (xc X).maxLocals = xn X ∧ (xh X).sig.returnType = rt ∧ (xh X).locks = false ∧ rcK sh N Y (xs X) ∧ d ≤ (xR X).frames ∧ 40 * d ≤ (xR X).locals ∧ xk X ≤ (xR X).cells ∧ xo X ≤ (xR X).slots
/-- a walk of a method -/
abbrev rcJ (sh : rcH) (N : Nat) (Y : rcY) (X : rcX) (K : Option Value → rcM → Prop) (pc : Nat) (l : List (Nat × Value)) (st : List Value) (v : rcM) : Prop :=
  rcG X (rcW sh N Y) (rcA N Y) (MQ (xb X) (rcQ sh N Y K) (xa X) (xs X) (xk X) (xo X) (rcA N Y)) pc l st v
theorem rcK_moved {sh : rcH} {N : Nat} {Y : rcY} {s U : State} (hW : s.WarmedH U.vm) (h : rcK sh N Y s) : rcK sh N Y U := by
  obtain ⟨h1, h2, h3, h4⟩ := h
  refine ⟨h1, va_K.moved hW.alike h2, fun id t n hid hs => ⟨arrOfT_moved hW.alike (h3 id t n hid hs).1, (h3 id t n hid hs).2.moved hW.alike⟩, fun w hw => ?_⟩
  have hx : ∃ a i x b, w = .methodLinkNest a i x b := by
    have hk : lw_nest w = true := (List.mem_filter.mp hw).2
    cases w <;> first | exact ⟨_, _, _, _, rfl⟩ | (simp [lw_nest] at hk; done)
  obtain ⟨a, i, x, b, rfl⟩ := hx
  exact va_Nw.warmM hW (h4 _ hw)
theorem rcK_calling {sh : rcH} {N : Nat} {Y : rcY} {U : State} {g : JFrame} {mk : MethodId} {a : Array Value} (h : rcK sh N Y U) : rcK sh N Y (U.calling g mk a) := by
  obtain ⟨h1, h2, h3, h4⟩ := h
  refine ⟨h1, va_K.moved (u := U) (U := U.calling g mk a) (Vm.Alike.refl U.vm) h2, fun id t n hid hs => ⟨arrOfT_moved (u := U) (E := U.calling g mk a) (Vm.Alike.refl U.vm) (h3 id t n hid hs).1, (h3 id t n hid hs).2.moved (u := U) (U := U.calling g mk a) (Vm.Alike.refl U.vm)⟩, fun w hw => ?_⟩
  have hx : ∃ a i x b, w = .methodLinkNest a i x b := by
    have hk : lw_nest w = true := (List.mem_filter.mp hw).2
    cases w <;> first | exact ⟨_, _, _, _, rfl⟩ | (simp [lw_nest] at hk; done)
  obtain ⟨a', i, x, b, rfl⟩ := hx
  exact va_Nw.same rfl (u := U) (U := U.calling g mk a) rfl (h4 _ hw)
theorem rcT.of {sh : rcH} {N : Nat} {Y : rcY} {la : Launch} {d : Nat} {y : MethodName} {cc : ByteArray} {maxL : Nat} {ret : Option FieldType} {as : List Value} {v : rcM} {K : Option Value → rcM → Prop}
    (hy : plainName y.cls = true) (hlen : (lg_sl as).length ≤ maxL)
    (body : ∀ X : rcX, rcF sh N Y X cc y.cls ret d → xn X = maxL → rcJ sh N Y X K 0 (lv_args 0 as) [] v) : rcT sh N Y la d (y, cc, maxL, ret) as v K := by
  refine Met.ofW (cc := cc) (maxL := maxL) (ret := ret) hy rfl ?_
  intro p e s m args below meth c s₁ B hml hv
  obtain ⟨rfl, hW, hK⟩ := hv
  have hts : ∀ w ∈ (Cond.code y cc maxL ret :: lw_g), w.before as.toArray s = true := atoms_spec (ws := Cond.code y cc maxL ret :: lw_g) B.pre
  have hown : s.vm.findClass y.cls = some m.cls := findClass_of_methodNamed B.named
  have F : rcF sh N Y (p, la, e, rcR d, s, m, as.toArray, below, meth, c, maxL, 0, 0) cc y.cls ret d :=
    ⟨⟨B.exec, B.bytes⟩, fun w hw => hts w (List.mem_cons_of_mem _ hw), hown, hml, B.returns, B.notSynchronized, hK, Nat.le_refl _, Nat.le_refl _, Nat.le_refl _, Nat.le_refl _⟩
  have J := body (p, la, e, rcR d, s, m, as.toArray, below, meth, c, maxL, 0, 0) F rfl
  rw [lg_entry_eq]
  exact J s.heap [] _ (lv_entry as hlen) hW va_S.rf
section FR
variable {sh : rcH} {N : Nat} {Y : rcY} {X : rcX} {cc : ByteArray} {own : String} {rt : Option FieldType} {d : Nat} {K : Option Value → rcM → Prop} {pc : Nat} {l : List (Nat × Value)} {st : List Value} {v : rcM}
theorem j_iret (F : rcF sh N Y X cc own (some .int) d) {x : Int32} (hdg : decode cc pc = .ok (.ireturn, 1)) (hK : K (some (.int x)) v) : rcJ sh N Y X K pc l [.int x] v := by
  intro H locs ls hl hw hS
  obtain ⟨E, hts, hown, hml, hr, hlk, hKK, -⟩ := F
  exact W.iret (v := x) E.1 E.2 hr (fun t ht hW => ⟨⟨_, v, rfl, hK, by rw [ht]; exact hw⟩, hS.F ht⟩) hS.2.2 hdg hlk
theorem j_zret (F : rcF sh N Y X cc own (some .boolean) d) {x : Int32} (hx : x = 0 ∨ x = 1) (hdg : decode cc pc = .ok (.ireturn, 1)) (hK : K (some (.int x)) v) : rcJ sh N Y X K pc l [.int x] v := by
  intro H locs ls hl hw hS
  obtain ⟨E, hts, hown, hml, hr, hlk, hKK, -⟩ := F
  exact W.zret (v := x) (ty := .boolean) E.1 E.2 hr (by rcases hx with rfl | rfl <;> rfl) (fun t ht hW => ⟨⟨_, v, rfl, hK, by rw [ht]; exact hw⟩, hS.F ht⟩) hS.2.2 hdg hlk
theorem j_vret (F : rcF sh N Y X cc own none d) (hdg : decode cc pc = .ok (.return_, 1)) (hK : K none v) : rcJ sh N Y X K pc l [] v := by
  intro H locs ls hl hw hS
  obtain ⟨E, hts, hown, hml, hr, hlk, hKK, -⟩ := F
  exact W.vret E.1 E.2 hr (fun t ht hW => ⟨⟨_, v, rfl, hK, by rw [ht]; exact hw⟩, hS.F ht⟩) hS.2.2 hdg hlk
theorem j_get (F : rcF sh N Y X cc own rt d) {ci k index id kd Nf : Nat} {ks : List Nat} {C : String} {T : u_T} {x : Value} (hin : ∀ w ∈ u_ws C T Nf, w ∈ lw_g) (hc : vwCl[ci]? = some (C, T, Nf)) (hk : k < Nf)
    (hl : Cond.fieldLink own index (T k).1 (T k).2.1 (T k).2.2.1 ∈ lw_g) (hs : id < N ∧ sh id = .inl (ci, ks)) (hkd : ks[k]? = some kd) (hx : rcv Y v id k kd = x) (hdg : decode cc pc = .ok (.getfield index, 3))
    (kk : rcJ sh N Y X K (pc + 3) l (x :: st) v) : rcJ sh N Y X K pc l (.ref (Y.2.1 id) :: st) v := by
  intro H locs ls hl' hw hS
  obtain ⟨E, hts, hown, hml, hr, hlk, hKK, -⟩ := F
  have he : (rcw sh N Y v)[id]? = some (Y.2.1 id, .inr (ci, ks.mapIdx (fun k kd => rcv Y v id k kd))) := by rw [rcw_at hs.1, rce_obj hs.2]
  exact va_get (D := Y.2.2) (ci := ci) (v := x) (C := C) (T := T) (N := Nf) E.1 E.2 hts hin hown hKK.2.1 hw id he hc k hk (hts _ hl) (fun _ h9 => h9) (by rw [List.getElem?_mapIdx, hkd]; exact congrArg some hx) hdg (kk H locs ls hl' hw hS)
theorem j_puti (F : rcF sh N Y X cc own rt d) {ci k index id Nf : Nat} {ks : List Nat} {C : String} {T : u_T} {x : Int32} {ty0 : Nat → FieldType} (hin : ∀ w ∈ u_ws C T Nf, w ∈ lw_g) (hty : ∀ k, k < Nf → parseFieldDescriptor (T k).2.2.1 = some (ty0 k)) (hnm : ∀ a, a < Nf → ∀ b, b < Nf → a ≠ b → (T a).2.1 ≠ (T b).2.1) (hc : vwCl[ci]? = some (C, T, Nf)) (hk : k < Nf)
    (hl : Cond.fieldLink own index (T k).1 (T k).2.1 (T k).2.2.1 ∈ lw_g) (hfin : (T k).2.2.2 = false) (ht : ty0 k = .int) (hs : id < N ∧ sh id = .inl (ci, ks)) (hkd : ks[k]? = some 0) (hdg : decode cc pc = .ok (.putfield index, 3))
    (kk : rcJ sh N Y X K (pc + 3) l st (rcu v id k x)) : rcJ sh N Y X K pc l (.int x :: .ref (Y.2.1 id) :: st) v := by
  intro H locs ls hl' hw hS
  obtain ⟨E, hts, hown, hml, hr, hlk, hKK, -⟩ := F
  have he : (rcw sh N Y v)[id]? = some (Y.2.1 id, .inr (ci, ks.mapIdx (fun k kd => rcv Y v id k kd))) := by rw [rcw_at hs.1, rce_obj hs.2]
  refine va_put (D := Y.2.2) (ci := ci) (v := .int x) (ty := .int) (C := C) (T := T) (N := Nf) E.1 E.2 hts hin ty0 hty hnm hown hKK.2.1 hw (rcw_D hKK.1) hS id he hc k hk (hts _ hl) (fun _ h9 => h9) hfin (by rw [hty k hk, ht]) rfl rfl (by simpa using (List.getElem?_eq_some_iff.mp hkd).1) hdg (fun H1 locs1 hP hD hS1 => ?_)
  rw [rcw_set hs.1 (rce_put hs.2 hkd (Or.inl rfl)) (fun j hj => rcu_ne hj)] at hP
  exact kk H1 locs1 ls hl' hP hS1
theorem j_putz (F : rcF sh N Y X cc own rt d) {ci k index id Nf : Nat} {ks : List Nat} {C : String} {T : u_T} {x : Int32} {ty0 : Nat → FieldType} (hin : ∀ w ∈ u_ws C T Nf, w ∈ lw_g) (hty : ∀ k, k < Nf → parseFieldDescriptor (T k).2.2.1 = some (ty0 k)) (hnm : ∀ a, a < Nf → ∀ b, b < Nf → a ≠ b → (T a).2.1 ≠ (T b).2.1) (hc : vwCl[ci]? = some (C, T, Nf)) (hk : k < Nf)
    (hl : Cond.fieldLink own index (T k).1 (T k).2.1 (T k).2.2.1 ∈ lw_g) (hfin : (T k).2.2.2 = false) (ht : ty0 k = .boolean) (hs : id < N ∧ sh id = .inl (ci, ks)) (hkd : ks[k]? = some 1) (hx : x = 0 ∨ x = 1) (hdg : decode cc pc = .ok (.putfield index, 3))
    (kk : rcJ sh N Y X K (pc + 3) l st (rcu v id k x)) : rcJ sh N Y X K pc l (.int x :: .ref (Y.2.1 id) :: st) v := by
  intro H locs ls hl' hw hS
  obtain ⟨E, hts, hown, hml, hr, hlk, hKK, -⟩ := F
  have he : (rcw sh N Y v)[id]? = some (Y.2.1 id, .inr (ci, ks.mapIdx (fun k kd => rcv Y v id k kd))) := by rw [rcw_at hs.1, rce_obj hs.2]
  refine va_put (D := Y.2.2) (ci := ci) (v := .int x) (ty := .boolean) (C := C) (T := T) (N := Nf) E.1 E.2 hts hin ty0 hty hnm hown hKK.2.1 hw (rcw_D hKK.1) hS id he hc k hk (hts _ hl) (fun _ h9 => h9) hfin (by rw [hty k hk, ht]) (by rcases hx with rfl | rfl <;> rfl) (by rcases hx with rfl | rfl <;> rfl) (by simpa using (List.getElem?_eq_some_iff.mp hkd).1) hdg (fun H1 locs1 hP hD hS1 => ?_)
  rw [rcw_set hs.1 (rce_put hs.2 hkd (Or.inr ⟨rfl, rcb_of hx⟩)) (fun j hj => rcu_ne hj)] at hP
  exact kk H1 locs1 ls hl' hP hS1
theorem rcK_arr (h : rcK sh N Y (xs X)) {id t n : Nat} (hs : id < N ∧ sh id = .inr (t, n)) : va_K Y.2.2 vwCl [(Y.1 id, rcty t)] (xs X) := by
  refine ⟨h.2.1.1, fun k q hq => ?_⟩
  match k, hq with
  | 0, hq => cases hq; exact h.2.2.1 id t n hs.1 hs.2
  | k + 1, hq => simp at hq
/-- an array's place: an index that is a number below its length -/
theorem j_iald (F : rcF sh N Y X cc own rt d) {id n j : Nat} {i : Int32} (hs : id < N ∧ sh id = .inr (0, n)) (hi : i = nI j) (hj : j < n) (hn : n < 2 ^ 31) (hdg : decode cc pc = .ok (.iaload, 1))
    (kk : rcJ sh N Y X K (pc + 1) l (.int (v id j) :: st) v) : rcJ sh N Y X K pc l (.int i :: .ref (Y.2.1 id) :: st) v := by
  intro H locs ls hl' hw hS
  subst hi
  obtain ⟨E, hts, hown, hml, hr, hlk, hKK, -⟩ := F
  have he : (rcw sh N Y v)[id]? = some (Y.2.1 id, .inl (Y.1 id, n, .inl (v id))) := by rw [rcw_at hs.1, rce_arr hs.2]; rfl
  refine va_iald (D := Y.2.2) E.1 E.2 (rcK_arr hKK hs) hw id 0 he rfl (vp_in_nI hj hn) hdg ?_
  rw [nI_clamp (Nat.lt_trans hj hn)]
  exact kk H locs ls hl' hw hS
theorem j_iast (F : rcF sh N Y X cc own rt d) {id n j : Nat} {i x : Int32} (hs : id < N ∧ sh id = .inr (0, n)) (hi : i = nI j) (hj : j < n) (hn : n < 2 ^ 31) (hdg : decode cc pc = .ok (.iastore, 1))
    (kk : rcJ sh N Y X K (pc + 1) l st (rcu v id j x)) : rcJ sh N Y X K pc l (.int x :: .int i :: .ref (Y.2.1 id) :: st) v := by
  intro H locs ls hl' hw hS
  subst hi
  obtain ⟨E, hts, hown, hml, hr, hlk, hKK, -⟩ := F
  have he : (rcw sh N Y v)[id]? = some (Y.2.1 id, .inl (Y.1 id, n, .inl (v id))) := by rw [rcw_at hs.1, rce_arr hs.2]; rfl
  refine va_iast (D := Y.2.2) E.1 E.2 (rcK_arr hKK hs) hw (rcw_D hKK.1) hS id 0 he rfl (vp_in_nI hj hn) hdg (fun H1 locs1 hP hD hS1 => ?_)
  rw [nI_clamp (Nat.lt_trans hj hn), rcw_set (v' := rcu v id j x) hs.1 (by rw [rce_arr hs.2]; show _ = Sum.inl (Y.1 id, n, Sum.inl (rcu v id j x id)); rw [rcu_row]) (fun j hj => rcu_ne hj)] at hP
  exact kk H1 locs1 ls hl' hP hS1
theorem j_cald (F : rcF sh N Y X cc own rt d) {id n j : Nat} {i : Int32} (hs : id < N ∧ sh id = .inr (1, n)) (hi : i = nI j) (hj : j < n) (hn : n < 2 ^ 31) (hdg : decode cc pc = .ok (.caload, 1))
    (kk : rcJ sh N Y X K (pc + 1) l (.int (v id j) :: st) v) : rcJ sh N Y X K pc l (.int i :: .ref (Y.2.1 id) :: st) v := by
  intro H locs ls hl' hw hS
  subst hi
  obtain ⟨E, hts, hown, hml, hr, hlk, hKK, -⟩ := F
  have he : (rcw sh N Y v)[id]? = some (Y.2.1 id, .inl (Y.1 id, n, .inl (v id))) := by rw [rcw_at hs.1, rce_arr hs.2]; rfl
  refine va_cald (D := Y.2.2) E.1 E.2 (rcK_arr hKK hs) hw id 0 he rfl (vp_in_nI hj hn) hdg ?_
  rw [nI_clamp (Nat.lt_trans hj hn)]
  exact kk H locs ls hl' hw hS
theorem j_cast (F : rcF sh N Y X cc own rt d) {id n j : Nat} {i x : Int32} (hs : id < N ∧ sh id = .inr (1, n)) (hi : i = nI j) (hj : j < n) (hn : n < 2 ^ 31) (hx : vp_nar .char x = x) (hdg : decode cc pc = .ok (.castore, 1))
    (kk : rcJ sh N Y X K (pc + 1) l st (rcu v id j x)) : rcJ sh N Y X K pc l (.int x :: .int i :: .ref (Y.2.1 id) :: st) v := by
  intro H locs ls hl' hw hS
  subst hi
  obtain ⟨E, hts, hown, hml, hr, hlk, hKK, -⟩ := F
  have he : (rcw sh N Y v)[id]? = some (Y.2.1 id, .inl (Y.1 id, n, .inl (v id))) := by rw [rcw_at hs.1, rce_arr hs.2]; rfl
  refine va_cast (D := Y.2.2) E.1 E.2 (rcK_arr hKK hs) hw (rcw_D hKK.1) hS id 0 he rfl (vp_in_nI hj hn) hdg (fun H1 locs1 hP hD hS1 => ?_)
  rw [hx, nI_clamp (Nat.lt_trans hj hn), rcw_set (v' := rcu v id j x) hs.1 (by rw [rce_arr hs.2]; show _ = Sum.inl (Y.1 id, n, Sum.inl (rcu v id j x id)); rw [rcu_row]) (fun j hj => rcu_ne hj)] at hP
  exact kk H1 locs1 ls hl' hP hS1
/-- a cell of a State's row -/
theorem j_aald3 (F : rcF sh N Y X cc own rt d) {id n j : Nat} {i : Int32} (hs : id < N ∧ sh id = .inr (3, n)) (hi : i = nI j) (hj : j < n) (hn : n < 2 ^ 31) (hdg : decode cc pc = .ok (.aaload, 1))
    (kk : rcJ sh N Y X K (pc + 1) l (.ref (Y.2.1 (j + (id + 1))) :: st) v) : rcJ sh N Y X K pc l (.int i :: .ref (Y.2.1 id) :: st) v := by
  intro H locs ls hl' hw hS
  subst hi
  obtain ⟨E, hts, hown, hml, hr, hlk, hKK, -⟩ := F
  have he : (rcw sh N Y v)[id]? = some (Y.2.1 id, .inl (Y.1 id, n, .inr (.inr (.inr (.inr (fun j => some (Y.2.1 (j + (id + 1))))))))) := by rw [rcw_at hs.1, rce_arr hs.2]; rfl
  refine va_aldq (D := Y.2.2) E.1 E.2 (rcK_arr hKK hs) hw id 0 he rfl (vp_in_nI hj hn) hdg ?_
  rw [nI_clamp (Nat.lt_trans hj hn)]
  exact kk H locs ls hl' hw hS
/-- a State of the history's row -/
theorem j_aald2 (F : rcF sh N Y X cc own rt d) {id n j : Nat} {i : Int32} (hs : id < N ∧ sh id = .inr (2, n)) (hi : i = nI j) (hj : j < n) (hn : n < 2 ^ 31) (hdg : decode cc pc = .ok (.aaload, 1))
    (kk : rcJ sh N Y X K (pc + 1) l (.ref (Y.2.1 (v id j).toNatClampNeg) :: st) v) : rcJ sh N Y X K pc l (.int i :: .ref (Y.2.1 id) :: st) v := by
  intro H locs ls hl' hw hS
  subst hi
  obtain ⟨E, hts, hown, hml, hr, hlk, hKK, -⟩ := F
  have he : (rcw sh N Y v)[id]? = some (Y.2.1 id, .inl (Y.1 id, n, .inr (.inr (.inr (.inr (fun j => some (Y.2.1 (v id j).toNatClampNeg))))))) := by rw [rcw_at hs.1, rce_arr hs.2]; rfl
  refine va_aldq (D := Y.2.2) E.1 E.2 (rcK_arr hKK hs) hw id 0 he rfl (vp_in_nI hj hn) hdg ?_
  rw [nI_clamp (Nat.lt_trans hj hn)]
  exact kk H locs ls hl' hw hS
theorem j_aast2 (F : rcF sh N Y X cc own rt d) {id n j b : Nat} {i : Int32} {ks : List Nat} (hs : id < N ∧ sh id = .inr (2, n)) (hb : b < N ∧ sh b = .inl (3, ks)) (hi : i = nI j) (hj : j < n) (hn : n < 2 ^ 31) (hb2 : b < 2 ^ 31) (hdg : decode cc pc = .ok (.aastore, 1))
    (kk : rcJ sh N Y X K (pc + 1) l st (rcu v id j (nI b))) : rcJ sh N Y X K pc l (.ref (Y.2.1 b) :: .int i :: .ref (Y.2.1 id) :: st) v := by
  intro H locs ls hl' hw hS
  subst hi
  obtain ⟨E, hts, hown, hml, hr, hlk, hKK, -⟩ := F
  have he : (rcw sh N Y v)[id]? = some (Y.2.1 id, .inl (Y.1 id, n, .inr (.inr (.inr (.inr (fun j => some (Y.2.1 (v id j).toNatClampNeg))))))) := by rw [rcw_at hs.1, rce_arr hs.2]; rfl
  have heb : (rcw sh N Y v)[b]? = some (Y.2.1 b, .inr (3, ks.mapIdx (fun k kd => rcv Y v b k kd))) := by rw [rcw_at hb.1, rce_obj hb.2]
  refine va_astq (D := Y.2.2) (r := (RX3, TX3, 10)) E.1 E.2 (rcK_arr hKK hs) hw (rcw_D hKK.1) hS id 0 b 3 he rfl heb rfl (vp_in_nI hj hn) hdg (fun H1 locs1 hP hD hS1 => ?_)
  rw [nI_clamp (Nat.lt_trans hj hn), rcw_set (v' := rcu v id j (nI b)) hs.1 (by
    rw [rce_arr hs.2]
    have : (fun i => some (Y.2.1 (rcu v id j (nI b) id i).toNatClampNeg)) = va_up (fun j => some (Y.2.1 (v id j).toNatClampNeg)) j (some (Y.2.1 b)) := by
      funext i
      by_cases h : i = j
      · subst h
        rw [rcu_self, nI_clamp hb2]
        simp [va_up]
      · rw [rcu_k h]
        simp [va_up, h]
    show _ = Sum.inl (Y.1 id, n, Sum.inr (Sum.inr (Sum.inr (Sum.inr (fun i => some (Y.2.1 (rcu v id j (nI b) id i).toNatClampNeg))))))
    rw [this]) (fun j hj => rcu_ne hj)] at hP
  exact kk H1 locs1 ls hl' hP hS1
theorem j_ldc (F : rcF sh N Y X cc own rt d) {index : Nat} {x : Int32} (hl : Cond.constant own index x ∈ lw_g) (hdg : decode cc pc = .ok (.ldc index, 2)) (kk : rcJ sh N Y X K (pc + 2) l (.int x :: st) v) : rcJ sh N Y X K pc l st v := fun H locs ls hl' hw hS => lv_ldc F.1.1 F.1.2 F.2.2.1 (F.2.1 _ hl) hdg (kk H locs ls hl' hw hS)
theorem j_ldc2 (F : rcF sh N Y X cc own rt d) {index : Nat} {x : Int64} (hl : Cond.constantLong own index x ∈ lw_g) (hdg : decode cc pc = .ok (.ldc2_w index, 3)) (kk : rcJ sh N Y X K (pc + 3) l (.long x :: st) v) : rcJ sh N Y X K pc l st v := fun H locs ls hl' hw hS => lv_ldc2 F.1.1 F.1.2 F.2.2.1 (F.2.1 _ hl) hdg (kk H locs ls hl' hw hS)
end FR
