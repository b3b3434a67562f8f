/-! Calls: a contract at a call. -/
section CALLS
variable {σ : Type} {sh : rcH} {N : Nat} {Y : rcY} {X : rcX} {cc : ByteArray} {own : String} {rt : Option FieldType} {d : Nat} {Wd : σ → Heap → Prop} {A : Nat → Prop} {Q : State → Prop} {pc : Nat} {l : List (Nat × Value)} {st stk : List Value} {v : σ}
/-- how a callee's world is a part of the caller's -/
def rcP (sh : rcH) (N : Nat) (Y : rcY) (Wd : σ → Heap → Prop) (v : σ) (vs : rcM) (pt : rcM → σ) : Prop :=
  (∀ H, Wd v H → rcW sh N Y vs H) ∧ ∀ (u : rcM) (H H1 : Heap), Wd v H → rcW sh N Y u H1 → H.size ≤ H1.size → (∀ q : Nat, q < H.size → ¬ rcA N Y q → H1[q]? = H[q]?) → Wd (pt u) H1
theorem rcP.self {v : rcM} : rcP sh N Y (rcW sh N Y) v v (fun u => u) := ⟨fun _ h => h, fun _ _ _ _ h _ _ => h⟩
theorem g_run {K : Option Value → rcM → Prop} {H : Heap} {locs : List Loc} {ls : Array Slot} {st0 : List Value} {a : Array Value} (hAf : ∀ q, rcA N Y q → A q)
    (hr : va_Run (xp X) (xl X) (xe X) (xR X) (xs X) (xm X) (xa X) (xb X) (xh X) (xc X) H locs (xk X) (xo X) 0 0 (F0 (xm X) pc ls st0) st (rcQ sh N Y K a) (rcA N Y)) (hS : va_S A (xs X).heap H locs)
    (kk : ∀ (r : Option Value) (u : rcM) (H1 : Heap) (locs1 : List Loc), K r u → rcW sh N Y u H1 → H.size ≤ H1.size → (∀ q : Nat, q < H.size → ¬ rcA N Y q → H1[q]? = H[q]?) → va_S A (xs X).heap H1 locs1 → W (xp X) (xl X) (xe X) (xR X) (xs X) (xm X) (xa X) (xb X) (xh X) (xc X) H1 locs1 (xk X) (xo X) Q (F0 (xm X) (pc + 3) ls (r.toList ++ st))) :
    W (xp X) (xl X) (xe X) (xR X) (xs X) (xm X) (xa X) (xb X) (xh X) (xc X) H locs (xk X) (xo X) Q (F0 (xm X) pc ls st0) := by
  intro T hT X0
  obtain ⟨w, st₀, t, T', L, h0, X', hL, e1, e2, ⟨⟨r, u, hv, hp, hb⟩, hz, hk⟩, hst⟩ := hr T hT X0
  cases hv
  rw [h0] at hz hk
  obtain ⟨t2, a1, b1⟩ := kk w u T'.heap (locs ++ L) hp (by rw [e1]; exact hb) (by rw [e1]; exact hz) (fun q h1 h2 => by rw [e1]; exact hk q h1 h2)
    ⟨Nat.le_trans hS.1 (by rw [e1]; exact hz), fun q h1 h2 => by rw [e1, hk q (Nat.lt_of_lt_of_le h1 hS.1) (fun z => h2 (hAf q z))]; exact hS.2.1 q h1 h2, fun q hq => by
      rcases List.mem_append.mp hq with h | h
      · exact hS.2.2 q h
      · exact hAf _ (hL q h)⟩ T' rfl X'
  exact ⟨t2, hst t2 a1, b1⟩
/-- what a call needs of a callee's words -/
abbrev rcC (y : MethodName) (n : Nat) : Prop := y.cls ≠ "java/lang/invoke/MethodHandle" ∧ y.cls ≠ "java/lang/invoke/VarHandle" ∧ (parseMethodDescriptor y.desc).map (fun d => d.parameters.length) = some n
theorem rc_good {c : Cond} (h : c ∈ lw_g) : GoodIn lw_g (c :: lw_g) := by
  intro w hw
  rcases List.mem_cons.mp hw with rfl | hw
  · exact ⟨h, good_of_word (List.mem_filter.mp h).2⟩
  · exact ⟨hw, good_of_word (List.mem_filter.mp hw).2⟩
theorem rc_blind {as : List Value} {vs : rcM} : FrameBlind (va_Pc as (fun U => rcW sh N Y vs U.heap ∧ rcK sh N Y U)) := fun a U g mk q => ⟨q.1, q.2.1, rcK_calling q.2.2⟩
theorem rc_callB (F : rcF sh N Y X cc own rt d) {y : MethodName} {cb : ByteArray} {mL d' n index : Nat} {re : Option FieldType} (hco : Cond.code y cb mL re ∈ lw_g) (hml : Cond.methodLink own index y ∈ lw_g) (hini : Cond.initialized y.cls ∈ lw_g) (hd : rcC y n) (hdd : d' < d) (hmL : mL ≤ 21) :
    CallB (xR X) (xs X) (xa X) own index y cb mL re (Cond.code y cb mL re :: lw_g) (rcR d') 0 0 n := by
  obtain ⟨E, hts, hown, hml', hr, hlk, hKK, hf, hlo, -⟩ := F
  exact callB_of n hts (rc_good hco) rfl rfl rfl (hts _ hini) (hts _ hml) hd ⟨by show d' + 1 ≤ _; omega, by show 8 + (mL + 11) + 40 * d' ≤ _; omega⟩
theorem g_callV (F : rcF sh N Y X cc own rt d) (hAf : ∀ q, rcA N Y q → A q) {K : Option Value → rcM → Prop} {vs : rcM} {pt : rcM → σ} (hP : rcP sh N Y Wd v vs pt) {y : MethodName} {cb : ByteArray} {mL d' n index b ci Nf : Nat} {re : Option FieldType} {as : List Value} {ks : List Nat} {T : u_T}
    (hM : rcT sh N Y (xl X) d' (y, cb, mL, re) (.ref (Y.2.1 b) :: as) vs K) (hco : Cond.code y cb mL re ∈ lw_g) (hml : Cond.methodLink own index y ∈ lw_g) (him : Cond.instanceMethod y ∈ lw_g) (hse : Cond.selects y.cls y y ∈ lw_g) (hini : Cond.initialized y.cls ∈ lw_g) (hd : rcC y n) (hn : as.length = n) (hdd : d' < d) (hmL : mL ≤ 21)
    (hs : b < N ∧ sh b = .inl (ci, ks)) (hc : vwCl[ci]? = some (y.cls, T, Nf)) (hst : stk = as.reverse ++ .ref (Y.2.1 b) :: st) (hro : (st.map fun w => w.category).sum ≤ 8) (hdg : decode cc pc = .ok (.invokevirtual index, 3))
    (kk : ∀ (r : Option Value) (u : rcM), K r u → rcG X Wd A Q (pc + 3) l (r.toList ++ st) (pt u)) : rcG X Wd A Q pc l stk v := by
  intro H locs ls hl hw hS
  have cb' := rc_callB F hco hml hini hd hdd hmL
  obtain ⟨E, hts, hown, hml', hr, hlk, hKK, hf, hlo, hce, hsl⟩ := F
  have hw' := hP.1 H hw
  have he : (rcw sh N Y vs)[b]? = some (Y.2.1 b, .inr (ci, ks.mapIdx (fun k kd => rcv Y vs b k kd))) := by rw [rcw_at hs.1, rce_obj hs.2]
  refine g_run (K := K) (st := st) (a := (Value.ref (Y.2.1 b) :: as).toArray) hAf (va_runV (Ts := lw_g) (C := y.cls) (own := own) (cc := cc) (nL := xn X) ⟨E.1, E.2, hml', hown, hts⟩ hM ⟨cb', hts _ him, hts _ hse⟩ ⟨rc_blind, va_recv hKK.2.1 hw' hc he, fun U hU hWU => ⟨rfl, by rw [hU]; exact hw', rcK_moved hWU hKK⟩⟩ rfl hn hl.1 hst (lv_room hro) hdg ⟨hce, hsl⟩) hS (fun r u H1 locs1 hK hw1 hz hk1 hS1 => ?_)
  exact kk r u hK H1 locs1 ls hl (hP.2 u H H1 hw hw1 hz hk1) hS1
theorem g_callS (F : rcF sh N Y X cc own rt d) (hAf : ∀ q, rcA N Y q → A q) {K : Option Value → rcM → Prop} {vs : rcM} {pt : rcM → σ} (hP : rcP sh N Y Wd v vs pt) {y : MethodName} {cb : ByteArray} {mL d' n index : Nat} {re : Option FieldType} {as : List Value}
    (hM : rcT sh N Y (xl X) d' (y, cb, mL, re) as vs K) (hco : Cond.code y cb mL re ∈ lw_g) (hml : Cond.methodLink own index y ∈ lw_g) (hsm : Cond.static y ∈ lw_g) (hini : Cond.initialized y.cls ∈ lw_g) (hd : rcC y n) (hn : as.length = n) (hdd : d' < d) (hmL : mL ≤ 21)
    (hst : stk = as.reverse ++ st) (hro : (st.map fun w => w.category).sum ≤ 8) (hdg : decode cc pc = .ok (.invokestatic index, 3))
    (kk : ∀ (r : Option Value) (u : rcM), K r u → rcG X Wd A Q (pc + 3) l (r.toList ++ st) (pt u)) : rcG X Wd A Q pc l stk v := by
  intro H locs ls hl hw hS
  have cb' := rc_callB F hco hml hini hd hdd hmL
  obtain ⟨E, hts, hown, hml', hr, hlk, hKK, hf, hlo, hce, hsl⟩ := F
  have hw' := hP.1 H hw
  refine g_run (K := K) (st := st) (a := as.toArray) hAf (va_runS (Ts := lw_g) (own := own) (cc := cc) (nL := xn X) ⟨E.1, E.2, hml', hown, hts⟩ hM ⟨cb', hts _ hsm⟩ ⟨rc_blind, fun U hU hWU => ⟨rfl, by rw [hU]; exact hw', rcK_moved hWU hKK⟩⟩ rfl hn hl.1 hst (lv_room hro) hdg ⟨hce, hsl⟩) hS (fun r u H1 locs1 hK hw1 hz hk1 hS1 => ?_)
  exact kk r u hK H1 locs1 ls hl (hP.2 u H H1 hw hw1 hz hk1) hS1
/-- a nest mate's static method -/
theorem g_callSN (F : rcF sh N Y X cc own rt d) (hAf : ∀ q, rcA N Y q → A q) {K : Option Value → rcM → Prop} {vs : rcM} {pt : rcM → σ} (hP : rcP sh N Y Wd v vs pt) {y : MethodName} {cb : ByteArray} {mL d' n index : Nat} {re : Option FieldType} {as : List Value} {host : String}
    (hM : rcT sh N Y (xl X) d' (y, cb, mL, re) as vs K) (hco : Cond.code y cb mL re ∈ lw_g) (hml : Cond.methodLinkNest own index y host ∈ lw_n) (hsm : Cond.static y ∈ lw_g) (hini : Cond.initialized y.cls ∈ lw_g) (hd : rcC y n) (hn : as.length = n) (hdd : d' < d) (hmL : mL ≤ 21)
    (hst : stk = as.reverse ++ st) (hro : (st.map fun w => w.category).sum ≤ 8) (hdg : decode cc pc = .ok (.invokestatic index, 3))
    (kk : ∀ (r : Option Value) (u : rcM), K r u → rcG X Wd A Q (pc + 3) l (r.toList ++ st) (pt u)) : rcG X Wd A Q pc l stk v := by
  intro H locs ls hl hw hS
  obtain ⟨E, hts, hown, hml', hr, hlk, hKK, hf, hlo, hce, hsl⟩ := F
  have cb' : va_CN (xR X) (xs X) (xa X) own index y host cb mL re (Cond.code y cb mL re :: lw_g) (rcR d') 0 0 n := va_cnB n hts (rc_good hco) rfl rfl rfl (hKK.2.2.2 _ hml) (hts _ hini) hd ⟨by show d' + 1 ≤ _; omega, by show 8 + (mL + 11) + 40 * d' ≤ _; omega⟩
  have hw' := hP.1 H hw
  refine g_run (K := K) (st := st) (a := as.toArray) hAf (va_runSN (Ts := lw_g) (own := own) (cc := cc) (nL := xn X) ⟨E.1, E.2, hml', hown, hts⟩ hM ⟨cb', hts _ hsm, trivial⟩ ⟨rc_blind, fun U hU hWU => ⟨rfl, by rw [hU]; exact hw', rcK_moved hWU hKK⟩⟩ rfl hn hl.1 hst (lv_room hro) hdg ⟨hce, hsl⟩) hS (fun r u H1 locs1 hK hw1 hz hk1 hS1 => ?_)
  exact kk r u hK H1 locs1 ls hl (hP.2 u H H1 hw hw1 hz hk1) hS1
end CALLS
section JCALLS
variable {sh : rcH} {N : Nat} {Y : rcY} {X : rcX} {cc : ByteArray} {own : String} {rt : Option FieldType} {d : Nat} {K : Option Value → rcM → Prop} {pc : Nat} {l : List (Nat × Value)} {st stk : List Value} {v : rcM}
theorem j_callV (F : rcF sh N Y X cc own rt d) {K' : Option Value → rcM → Prop} {y : MethodName} {cb : ByteArray} {mL d' n index b ci Nf : Nat} {re : Option FieldType} {as : List Value} {ks : List Nat} {T : u_T}
    (hM : rcT sh N Y (xl X) d' (y, cb, mL, re) (.ref (Y.2.1 b) :: as) v K') (hco : Cond.code y cb mL re ∈ lw_g) (hml : Cond.methodLink own index y ∈ lw_g) (him : Cond.instanceMethod y ∈ lw_g) (hse : Cond.selects y.cls y y ∈ lw_g) (hini : Cond.initialized y.cls ∈ lw_g) (hd : rcC y n) (hn : as.length = n) (hdd : d' < d) (hmL : mL ≤ 21)
    (hs : b < N ∧ sh b = .inl (ci, ks)) (hc : vwCl[ci]? = some (y.cls, T, Nf)) (hst : stk = as.reverse ++ .ref (Y.2.1 b) :: st) (hro : (st.map fun w => w.category).sum ≤ 8) (hdg : decode cc pc = .ok (.invokevirtual index, 3))
    (kk : ∀ (r : Option Value) (u : rcM), K' r u → rcJ sh N Y X K (pc + 3) l (r.toList ++ st) u) : rcJ sh N Y X K pc l stk v :=
  g_callV (pt := fun u => u) F (fun _ h => h) rcP.self hM hco hml him hse hini hd hn hdd hmL hs hc hst hro hdg kk
theorem j_callVi (F : rcF sh N Y X cc own rt d) {x : Int32} {u : rcM} {y : MethodName} {cb : ByteArray} {mL d' n index b ci Nf : Nat} {re : Option FieldType} {as : List Value} {ks : List Nat} {T : u_T}
    (hM : rcT sh N Y (xl X) d' (y, cb, mL, re) (.ref (Y.2.1 b) :: as) v (rI x u)) (hco : Cond.code y cb mL re ∈ lw_g) (hml : Cond.methodLink own index y ∈ lw_g) (him : Cond.instanceMethod y ∈ lw_g) (hse : Cond.selects y.cls y y ∈ lw_g) (hini : Cond.initialized y.cls ∈ lw_g) (hd : rcC y n) (hn : as.length = n) (hdd : d' < d) (hmL : mL ≤ 21)
    (hs : b < N ∧ sh b = .inl (ci, ks)) (hc : vwCl[ci]? = some (y.cls, T, Nf)) (hst : stk = as.reverse ++ .ref (Y.2.1 b) :: st) (hro : (st.map fun w => w.category).sum ≤ 8) (hdg : decode cc pc = .ok (.invokevirtual index, 3))
    (kk : rcJ sh N Y X K (pc + 3) l (.int x :: st) u) : rcJ sh N Y X K pc l stk v :=
  j_callV F hM hco hml him hse hini hd hn hdd hmL hs hc hst hro hdg (fun r u' h => by obtain ⟨rfl, rfl⟩ := h; exact kk)
theorem j_callVv (F : rcF sh N Y X cc own rt d) {u : rcM} {y : MethodName} {cb : ByteArray} {mL d' n index b ci Nf : Nat} {re : Option FieldType} {as : List Value} {ks : List Nat} {T : u_T}
    (hM : rcT sh N Y (xl X) d' (y, cb, mL, re) (.ref (Y.2.1 b) :: as) v (rV u)) (hco : Cond.code y cb mL re ∈ lw_g) (hml : Cond.methodLink own index y ∈ lw_g) (him : Cond.instanceMethod y ∈ lw_g) (hse : Cond.selects y.cls y y ∈ lw_g) (hini : Cond.initialized y.cls ∈ lw_g) (hd : rcC y n) (hn : as.length = n) (hdd : d' < d) (hmL : mL ≤ 21)
    (hs : b < N ∧ sh b = .inl (ci, ks)) (hc : vwCl[ci]? = some (y.cls, T, Nf)) (hst : stk = as.reverse ++ .ref (Y.2.1 b) :: st) (hro : (st.map fun w => w.category).sum ≤ 8) (hdg : decode cc pc = .ok (.invokevirtual index, 3))
    (kk : rcJ sh N Y X K (pc + 3) l st u) : rcJ sh N Y X K pc l stk v :=
  j_callV F hM hco hml him hse hini hd hn hdd hmL hs hc hst hro hdg (fun r u' h => by obtain ⟨rfl, rfl⟩ := h; exact kk)
theorem j_callSi (F : rcF sh N Y X cc own rt d) {x : Int32} {u : rcM} {y : MethodName} {cb : ByteArray} {mL d' n index : Nat} {re : Option FieldType} {as : List Value}
    (hM : rcT sh N Y (xl X) d' (y, cb, mL, re) as v (rI x u)) (hco : Cond.code y cb mL re ∈ lw_g) (hml : Cond.methodLink own index y ∈ lw_g) (hsm : Cond.static y ∈ lw_g) (hini : Cond.initialized y.cls ∈ lw_g) (hd : rcC y n) (hn : as.length = n) (hdd : d' < d) (hmL : mL ≤ 21)
    (hst : stk = as.reverse ++ st) (hro : (st.map fun w => w.category).sum ≤ 8) (hdg : decode cc pc = .ok (.invokestatic index, 3))
    (kk : rcJ sh N Y X K (pc + 3) l (.int x :: st) u) : rcJ sh N Y X K pc l stk v :=
  g_callS (pt := fun u => u) F (fun _ h => h) rcP.self hM hco hml hsm hini hd hn hdd hmL hst hro hdg (fun r u' h => by obtain ⟨rfl, rfl⟩ := h; exact kk)
theorem j_callSNi (F : rcF sh N Y X cc own rt d) {x : Int32} {u : rcM} {y : MethodName} {cb : ByteArray} {mL d' n index : Nat} {re : Option FieldType} {as : List Value} {host : String}
    (hM : rcT sh N Y (xl X) d' (y, cb, mL, re) as v (rI x u)) (hco : Cond.code y cb mL re ∈ lw_g) (hml : Cond.methodLinkNest own index y host ∈ lw_n) (hsm : Cond.static y ∈ lw_g) (hini : Cond.initialized y.cls ∈ lw_g) (hd : rcC y n) (hn : as.length = n) (hdd : d' < d) (hmL : mL ≤ 21)
    (hst : stk = as.reverse ++ st) (hro : (st.map fun w => w.category).sum ≤ 8) (hdg : decode cc pc = .ok (.invokestatic index, 3))
    (kk : rcJ sh N Y X K (pc + 3) l (.int x :: st) u) : rcJ sh N Y X K pc l stk v :=
  g_callSN (pt := fun u => u) F (fun _ h => h) rcP.self hM hco hml hsm hini hd hn hdd hmL hst hro hdg (fun r u' h => by obtain ⟨rfl, rfl⟩ := h; exact kk)
/-- Math.max of two ints -/
theorem j_max (F : rcF sh N Y X cc own rt d) {x y : Int32} {index : Nat} (hml : Cond.methodLink own index Lib.Math.max.name ∈ lw_g) (hsm : Cond.static Lib.Math.max.name ∈ lw_g) (hini : Cond.initialized "java/lang/Math" ∈ lw_g) (hco : Cond.code Lib.Math.max.name Lib.Math.max.code 2 (some .int) ∈ lw_g) (hdd : 0 < d) (hro : (st.map fun w => w.category).sum ≤ 8) (hdg : decode cc pc = .ok (.invokestatic index, 3))
    (kk : rcJ sh N Y X K (pc + 3) l (.int (if x < y then y else x) :: st) v) : rcJ sh N Y X K pc l (.int y :: .int x :: st) v := by
  intro H locs ls hl hw hS
  obtain ⟨E, hts, hown, hml', hr, hlk, hKK, hf, hlo, hce, hsl⟩ := F
  exact va_mmax E.1 E.2 (hml'.trans hl.1.symm) hown (hts _ hml) (hts _ hsm) (hts _ hini) (hts _ hco) (by omega) (by omega) hce hsl hdg (kk H locs ls hl hw hS)
end JCALLS
