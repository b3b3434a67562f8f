/-! More rows; contracts that the law's own methods call. -/
section ROWS2
variable {σ : Type} {X : rcX} {Wd : σ → Heap → Prop} {A : Nat → Prop} {Q : State → Prop} {pc : Nat} {l : List (Nat × Value)} {st : List Value} {v : σ} {cc : ByteArray}
theorem j_idiv (F : rcE X cc) {x y : Int32} (hdg : decode cc pc = .ok (.idiv, 1)) (hne : ¬ y = 0) (k : rcG X Wd A Q (pc + 1) l (.int (x / y) :: st) v) : rcG X Wd A Q pc l (.int y :: .int x :: st) v := fun H locs ls hl hw hS => lv_idiv F.1 F.2 hdg hne (k H locs ls hl hw hS)
theorem j_irem (F : rcE X cc) {x y : Int32} (hdg : decode cc pc = .ok (.irem, 1)) (hne : ¬ y = 0) (k : rcG X Wd A Q (pc + 1) l (.int (x - x / y * y) :: st) v) : rcG X Wd A Q pc l (.int y :: .int x :: st) v := fun H locs ls hl hw hS => lv_irem F.1 F.2 hdg hne (k H locs ls hl hw hS)
theorem j_lload (F : rcE X cc) {i : Nat} {x : Int64} (hdg : decode cc pc = .ok (.lload i, 2)) (hx : rcl l i = some (.long x)) (k : rcG X Wd A Q (pc + 2) l (.long x :: st) v) : rcG X Wd A Q pc l st v := fun H locs ls hl hw hS => lv_lload F.1 F.2 hdg (rcl_at hl hx) (k H locs ls hl hw hS)
theorem j_lstore (F : rcE X cc) {i : Nat} {x : Int64} (hdg : decode cc pc = .ok (.lstore i, 2)) (hn : i + 1 < xn X) (k : rcG X Wd A Q (pc + 2) (rcs2 l i (.long x)) st v) : rcG X Wd A Q pc l (.long x :: st) v := fun H locs ls hl hw hS => lv_lstore F.1 F.2 hdg hl hn rfl (fun ls' hl' => k H locs ls' hl' hw hS)
end ROWS2
theorem j_lret {sh : rcH} {N : Nat} {Y : rcY} {X : rcX} {cc : ByteArray} {own : String} {d : Nat} {K : Option Value → rcM → Prop} {pc : Nat} {l : List (Nat × Value)} {v : rcM} (F : rcF sh N Y X cc own (some .long) d) {x : Int64} (hdg : decode cc pc = .ok (.lreturn, 1)) (hK : K (some (.long x)) v) : rcJ sh N Y X K pc l [.long x] v := by
  intro H locs ls hl hw hS
  obtain ⟨E, hts, hown, hml, hr, hlk, hKK, -⟩ := F
  exact W.lret (v := x) E.1 E.2 hr (fun t ht hW => ⟨⟨_, v, rfl, hK, by rw [ht]; exact hw⟩, hS.F ht⟩) hS.2.2 hdg hlk
theorem j_callS {sh : rcH} {N : Nat} {Y : rcY} {X : rcX} {cc : ByteArray} {own : String} {rt : Option FieldType} {d : Nat} {K : Option Value → rcM → Prop} {pc : Nat} {l : List (Nat × Value)} {st stk : List Value} {v : rcM} (F : rcF sh N Y X cc own rt d) {K' : Option Value → rcM → Prop} {y : MethodName} {cb : ByteArray} {mL d' n index : Nat} {re : Option FieldType} {as : List Value}
    (hM : rcT sh N Y (xl X) d' (y, cb, mL, re) as v K') (hco : Cond.code y cb mL re ∈ lw_g) (hml : Cond.methodLink own index y ∈ lw_g) (hsm : Cond.static y ∈ lw_g) (hini : Cond.initialized y.cls ∈ lw_g) (hd : rcC y n) (hn : as.length = n) (hdd : d' < d) (hmL : mL ≤ 21)
    (hst : stk = as.reverse ++ st) (hro : (st.map fun w => w.category).sum ≤ 8) (hdg : decode cc pc = .ok (.invokestatic index, 3))
    (kk : ∀ (r : Option Value) (u : rcM), K' r u → rcJ sh N Y X K (pc + 3) l (r.toList ++ st) u) : rcJ sh N Y X K pc l stk v :=
  g_callS (pt := fun u => u) F (fun _ h => h) rcP.self hM hco hml hsm hini hd hn hdd hmL hst hro hdg kk
theorem rc_L_lot : rcC yL_lot 2 := ⟨by decide +kernel, by decide +kernel, by decide +kernel⟩
theorem rc_L_low : rcC yL_low 2 := ⟨by decide +kernel, by decide +kernel, by decide +kernel⟩
theorem rc_L_digest : rcC yL_digest 1 := ⟨by decide +kernel, by decide +kernel, by decide +kernel⟩
theorem rc_L_holds : rcC yL_holds 1 := ⟨by decide +kernel, by decide +kernel, by decide +kernel⟩
theorem rc_L_types : rcC yL_types 2 := ⟨by decide +kernel, by decide +kernel, by decide +kernel⟩
theorem rc_L_plays : rcC yL_plays 1 := ⟨by decide +kernel, by decide +kernel, by decide +kernel⟩
theorem rc_L_acts : rcC yL_acts 3 := ⟨by decide +kernel, by decide +kernel, by decide +kernel⟩
/-- what rememberedOf answers -/
def Rv (f : Nat → Int32) (c w : Int32) : Int32 := if (0 ≤ c ∧ c ≤ 9) ∧ (0 ≤ w ∧ w ≤ 6) then
    (if f (ix (cN c) 6) = 0 ∨ ((4 ≤ w ∧ w ≤ 5) ∧ f (ix (cN c) 10) ≤ w - 4) then -2000000004
     else if w = 6 then plc f (cN c) 10 else f (ix (cN c) (7 + cN w))) else -2000000001
theorem S_rv {f p : Nat → Int32} {n : Nat} {c w : Int32} : S_remOf f p n c w = S_no (Rv f c w) f p n := by
  unfold S_remOf Rv
  split
  · split
    · rfl
    · split <;> rfl
  · rfl
theorem c_rem {Y : rcY} {la : Launch} {v : rcM} {f p tx : Nat → Int32} {n ln : Nat} (hn4 : n ≤ 4) (hC : CR v f p n tx ln) (hw : WF f) {c w : Int32} : rcT shC 139 Y la 2 (yX5_rememberedOf, cX5_rememberedOf, 4, (some .int)) [.ref (Y.2.1 0), .int c, .int w] (v) (KX (Rv f c w) f p n tx ln) := by
  have q := c_rememberedOf (Y := Y) (la := la) hn4 hC hw (c := c) (w := w)
  rw [S_rv] at q
  exact q
/-- what low answers -/
def lowN (x : Int32) (N : Nat) : Nat := (x &&& 2147483647).toNatClampNeg % N
theorem lowN_lt {x : Int32} {N : Nat} (h : 0 < N) : lowN x N < N := Nat.mod_lt _ h
theorem low_rem {x : Int32} {N : Nat} (h : 0 < N) (hN : N < 2 ^ 31) : (x &&& 2147483647) - (x &&& 2147483647) / nI N * nI N = nI (lowN x N) := by
  obtain ⟨j, hj, e⟩ := pk_andE x (m := 2147483647) 31 (by decide)
  unfold lowN
  rw [e, nI_clamp hj, pk_rem hj h hN]
set_option maxHeartbeats 4000000 in
theorem c_low {Y : rcY} {la : Launch} {v : rcM} {x : Int32} {N : Nat} (h : 0 < N) (hN : N < 2 ^ 31) : rcT shC 139 Y la 0 (yL_low, cL_low, 2, (some .int)) [.int x, .int (nI N)] (v) (rI (nI (lowN x N)) v) := by
  refine rcT.of (by decide +kernel) (Nat.le_of_ble_eq_true rfl) (fun X F hn => ?_)
  refine j_iload_n F.1 dL_low_0 rfl ?_
  refine j_ldc F cn_L_8 dL_low_1 ?_
  refine j_iand F.1 dL_low_3 ?_
  refine j_iload_n F.1 dL_low_4 rfl ?_
  refine j_irem F.1 dL_low_5 (nI_ne0 h hN) ?_
  exact j_iret F dL_low_6 ⟨by rw [low_rem h hN], rfl⟩
