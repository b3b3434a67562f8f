/-! Histories; the law's script. -/
theorem lg_self (x : Int64) : lg_cmp x x = 0 := by
  unfold lg_cmp
  simp
/-- what holds between acts: of the state, and of the states before -/
def HI (f p : Nat → Int32) (n : Nat) (B : Int) : Prop := INV f B ∧ (∀ j, j < n → INV (rwH p j) B) ∧ n ≤ 4
theorem HI.up {f p : Nat → Int32} {n : Nat} {B C : Int} (h : HI f p n B) (hB : B ≤ C) : HI f p n C := ⟨h.1.up hB, fun j hj => (h.2.1 j hj).up hB, h.2.2⟩
theorem put_top {n k : Nat} {f p : Nat → Int32} (hk : k < 158) : rwH (put4 158 n f p) n k = f k := by
  unfold rwH put4
  rw [if_pos (by omega)]
  congr 1
  omega
theorem put_low {n j k : Nat} {f p : Nat → Int32} (hj : j < n) (hk : k < 158) : rwH (put4 158 n f p) j k = rwH p j k := by
  unfold rwH put4
  rw [if_neg (by omega)]
theorem put_sh {j k : Nat} {f p : Nat → Int32} (hj : j < 3) (hk : k < 158) : rwH (put4 158 3 f (sh4 474 p)) j k = rwH p (j + 1) k := by
  unfold rwH put4 sh4
  rw [if_neg (by omega), if_pos (by omega)]
  congr 1
  omega
theorem HI.act {f g p : Nat → Int32} {n : Nat} {B C : Int} (h : HI f p n B) (hB : B ≤ C) (hg : INV g C) : HI g (H_act n f p).1 (H_act n f p).2 C := by
  rcases Nat.lt_or_ge n 4 with hn | hn
  · rw [H_n hn]
    refine ⟨hg, fun j hj => ?_, by show n + 1 ≤ 4; omega⟩
    have hj : j < n + 1 := hj
    by_cases e : j = n
    · subst e
      exact (h.1.up hB).row (fun k hk => put_top hk)
    · exact ((h.2.1 j (by omega)).up hB).row (fun k hk => put_low (by omega) hk)
  · have e4 : n = 4 := by have := h.2.2; omega
    subst e4
    rw [H_4]
    refine ⟨hg, fun j hj => ?_, Nat.le_refl 4⟩
    have hj : j < 4 := hj
    by_cases e : j = 3
    · subst e
      exact (h.1.up hB).row (fun k hk => put_top hk)
    · exact ((h.2.1 (j + 1) (by omega)).up hB).row (fun k hk => put_sh (by omega) hk)
/-- an undo behind a change: the state as it was -/
theorem HI.back {f p : Nat → Int32} {n : Nat} {B C : Int} (h : HI f p n B) (hB : B ≤ C) (hn : n < 4) : HI f (put4 158 n f p) n C :=
  ⟨h.1.up hB, fun j hj => ((h.2.1 j hj).up hB).row (fun k hk => put_low hj hk), h.2.2⟩
theorem HI.undo {f p : Nat → Int32} {m : Nat} {B : Int} (h : HI f p (m + 1) B) : HI (rwH p m) p m B := ⟨h.2.1 m (by omega), fun j hj => h.2.1 j (by omega), by have := h.2.2; omega⟩
theorem CR.row {v : rcM} {f g p tx : Nat → Int32} {n ln : Nat} (h : CR v f p n tx ln) (e : ∀ k, k < 158 → g k = f k) : CR v g p n tx ln := ⟨h.1.row e, h.2⟩
theorem und_s {f p : Nat → Int32} {m : Nat} : S_undo f p (m + 1) = (nI m, rwH p m, p, m) := by
  unfold S_undo
  rw [if_neg (by omega)]
  rfl
theorem und_0 {f p : Nat → Int32} : S_undo f p 0 = S_no (-2000000002) f p 0 := rfl
section GL
variable {σ : Type} {sh : rcH} {N : Nat} {Y : rcY} {X : rcX} {cc : ByteArray} {own : String} {rt : Option FieldType} {d : Nat} {Wd : σ → Heap → Prop} {A : Nat → Prop} {Q : State → Prop} {pc : Nat} {l : List (Nat × Value)} {st : List Value} {v : σ} {b L : Nat} {sx : Nat → Int32}
theorem g_ldc (F : rcF sh N Y X cc own rt d) {index : Nat} {x : Int32} (hl : Cond.constant own index x ∈ lw_g) (hdg : decode cc pc = .ok (.ldc index, 2)) (kk : rcG X Wd A Q (pc + 2) l (.int x :: st) v) : rcG X Wd A Q pc l st v := fun H locs ls hl' hw hS => lv_ldc F.1.1 F.1.2 F.2.2.1 (F.2.1 _ hl) hdg (kk H locs ls hl' hw hS)
theorem l_slen (E : rcE X cc) (hX : va_X b L sx (xs X) (xs X).heap) (hbl : b < (xs X).heap.size) (hbA : ¬ A b) (hdg : decode cc pc = .ok (.arraylength, 1)) (k : rcG X Wd A Q (pc + 1) l (.int (nI L) :: st) v) : rcG X Wd A Q pc l (.ref b :: st) v :=
  fun H locs ls hl hw hS => va_slen E.1 E.2 hX hbl hbA hS hdg (k H locs ls hl hw hS)
theorem l_sld (E : rcE X cc) (hX : va_X b L sx (xs X) (xs X).heap) (hbl : b < (xs X).heap.size) (hbA : ¬ A b) {j : Nat} (hj : j < L) (hL : L < 2 ^ 31) (hdg : decode cc pc = .ok (.iaload, 1)) (k : rcG X Wd A Q (pc + 1) l (.int (sx j) :: st) v) : rcG X Wd A Q pc l (.int (nI j) :: .ref b :: st) v :=
  fun H locs ls hl hw hS => va_sld E.1 E.2 hX hbl hbA hS (vp_in_nI hj hL) hdg (by rw [nI_clamp (Nat.lt_trans hj hL)]; exact k H locs ls hl hw hS)
theorem l_ldc (E : rcE X cc) (hown : (xs X).vm.findClass own = some (xm X).cls) {index : Nat} {x : Int32} (hl : (Cond.constant own index x).before (xa X) (xs X) = true) (hdg : decode cc pc = .ok (.ldc index, 2)) (kk : rcG X Wd A Q (pc + 2) l (.int x :: st) v) : rcG X Wd A Q pc l st v := fun H locs ls hl' hw hS => lv_ldc E.1 E.2 hown hl hdg (kk H locs ls hl' hw hS)
end GL
def LotQ : Array Value → State → Outcome → State → Prop := fun _ st oc t => (∃ z : Int32, oc = .returned (some (.int z))) ∧ va_F (fun _ => False) st t
set_option maxHeartbeats 4000000 in
/-- the script's k-th number, or one made of k -/
theorem c_lot {la : Launch} {b L k : Nat} {sx : Nat → Int32} (hL : L ≤ 260) (hk : k < 1000) : Met la yL_lot (Cond.code yL_lot cL_lot 2 (some .int) :: lw_g) (rcR 0) (va_Pc [.ref b, .int (nI k)] (fun U => va_X b L sx U U.heap ∧ b < U.heap.size)) LotQ 0 0 (fun _ => False) := by
  refine Met.ofW (cc := cL_lot) (maxL := 2) (ret := some .int) (by decide +kernel) rfl ?_
  intro p e s m args below meth c s₁ B hml hv
  obtain ⟨rfl, hX, hbl⟩ := hv
  have hts0 := atoms_spec (ws := Cond.code yL_lot cL_lot 2 (some .int) :: lw_g) B.pre
  have hts : ∀ w ∈ lw_g, w.before #[Value.ref b, Value.int (nI k)] s = true := fun w hw => hts0 w (List.mem_cons_of_mem _ hw)
  have hown : s.vm.findClass RL = some m.cls := findClass_of_methodNamed B.named
  have hr := B.returns
  have hlk := B.notSynchronized
  have E : rcE (p, la, e, rcR 0, s, m, #[Value.ref b, Value.int (nI k)], below, meth, c, 2, 0, 0) cL_lot := ⟨B.exec, B.bytes⟩
  have fin : ∀ (lo : List (Nat × Value)) (z : Int32), rcG (σ := Unit) (p, la, e, rcR 0, s, m, #[Value.ref b, Value.int (nI k)], below, meth, c, 2, 0, 0) (fun _ _ => True) (fun _ => False) (MQ below LotQ #[Value.ref b, Value.int (nI k)] s 0 0 (fun _ => False)) 24 lo [.int z] () := by
    intro lo z H locs ls hl hw hS
    exact W.iret (v := z) E.1 E.2 hr (fun t ht hW => ⟨⟨z, rfl⟩, hS.F ht⟩) hS.2.2 dL_lot_24 hlk
  have J : rcG (σ := Unit) (p, la, e, rcR 0, s, m, #[Value.ref b, Value.int (nI k)], below, meth, c, 2, 0, 0) (fun _ _ => True) (fun _ => False) (MQ below LotQ #[Value.ref b, Value.int (nI k)] s 0 0 (fun _ => False)) 0 [(0, .ref b), (1, .int (nI k))] [] () := by
    refine j_iload_n E dL_lot_0 rfl ?_
    refine j_aload_n E dL_lot_1 rfl ?_
    refine l_slen E hX hbl (fun z => z) dL_lot_2 ?_
    refine j_icmp_ge E 12 dL_lot_3 (by decide) (fun h3 => ?_) (fun h3 => ?_)
    · refine l_ldc E hown (hts _ cn_L_7) dL_lot_12 ?_
      refine j_iload_n E dL_lot_14 rfl ?_
      refine j_sipush E (2791) dL_lot_15 (by decide) ?_
      refine j_iadd E dL_lot_18 ?_
      refine j_imul E dL_lot_19 ?_
      refine j_sipush E (2579) dL_lot_20 (by decide) ?_
      refine j_iadd E dL_lot_23 ?_
      exact fin _ _
    · have q3 : k < L := Nat.lt_of_not_le (fun z => h3 ((nI_leI (a := L) (b := k) (by omega) (by omega)).mpr z))
      refine j_aload_n E dL_lot_6 rfl ?_
      refine j_iload_n E dL_lot_7 rfl ?_
      refine l_sld E hX hbl (fun z => z) q3 (by omega) dL_lot_8 ?_
      refine j_goto E 24 dL_lot_9 (by decide) ?_
      exact fin _ _
  rw [lg_entry_eq]
  exact J s.heap [] _ (lv_entry [.ref b, .int (nI k)] (n := 2) (Nat.le_of_ble_eq_true rfl)) trivial va_S.rf
theorem lot_blind {b L k : Nat} {sx : Nat → Int32} : FrameBlind (va_Pc [.ref b, .int (nI k)] (fun U => va_X b L sx U U.heap ∧ b < U.heap.size)) := fun a U g mk q => ⟨q.1, va_X.moved (u := U) (U := U.calling g mk a) (Vm.Alike.refl U.vm) q.2.1, q.2.2⟩
/-- a call of lot: some number; the heap stays -/
theorem g_lot {sh : rcH} {N : Nat} {Y : rcY} {X : rcX} {cc : ByteArray} {rt : Option FieldType} {d : Nat} {A : Nat → Prop} {Q : State → Prop} {pc : Nat} {l : List (Nat × Value)} {st : List Value} {v : rcM} {b L k : Nat} {sx : Nat → Int32} (F : rcF sh N Y X cc RL rt d) (hL : L ≤ 260) (hk : k < 1000) (hX : va_X b L sx (xs X) (xs X).heap) (hbl : b < (xs X).heap.size) (hbA : ¬ A b) (hdd : 0 < d)
    (hro : (st.map fun w => w.category).sum ≤ 8) (hdg : decode cc pc = .ok (.invokestatic 89, 3)) (kk : ∀ z : Int32, rcG X (rcW sh N Y) A Q (pc + 3) l (.int z :: st) v) : rcG X (rcW sh N Y) A Q pc l (.int (nI k) :: .ref b :: st) v := by
  intro H locs ls hl hw hS
  have cb' := rc_callB F co_L_lot ml_L_89 in_L rc_L_lot hdd (by decide)
  obtain ⟨E, hts, hown, hml', hr, hlk, hKK, hf, hlo, hce, hsl⟩ := F
  have hb0 := hS.2.1 b hbl hbA
  have hbH : b < H.size := Nat.lt_of_lt_of_le hbl hS.1
  have hrun := va_runS (e := xe X) (below := xb X) (meth := xh X) (Ts := lw_g) (own := RL) (cc := cc) (nL := xn X) (As := [.ref b, .int (nI k)]) (rest := st) ⟨E.1, E.2, hml', hown, hts⟩ (c_lot (la := xl X) (b := b) (L := L) (k := k) (sx := sx) hL hk) ⟨cb', hts _ st_L_lot⟩ ⟨lot_blind, fun U hU hWU => ⟨rfl, va_X.moved hWU.alike (by rw [hU]; exact hX.kept hb0), by rw [hU]; exact hbH⟩⟩ (g := F0 (xm X) pc ls (.int (nI k) :: .ref b :: st)) rfl rfl hl.1 rfl (lv_room hro) hdg (cells := xk X) (slots := xo X) (locs := locs) ⟨hce, hsl⟩
  intro T hT X0
  obtain ⟨w, st₀, t, T', Lc, h0, X', hLc, e1, e2, ⟨⟨z, hv⟩, hz, hkq⟩, hst⟩ := hrun T hT X0
  cases hv
  rw [h0] at hz hkq
  have hw' : rcW sh N Y v T'.heap := va_P.kept hw (fun k q hkk => by rw [e1]; exact hkq q.1 (va_at.lt (hw k q hkk)) (fun z => z))
  have hS' : va_S A (xs X).heap T'.heap (locs ++ Lc) := ⟨Nat.le_trans hS.1 (by rw [e1]; exact hz), fun q h1 h2 => by rw [e1, hkq q (Nat.lt_of_lt_of_le h1 hS.1) (fun z => z)]; exact hS.2.1 q h1 h2, fun q hq => by
    rcases List.mem_append.mp hq with h | h
    · exact hS.2.2 q h
    · exact absurd (hLc q h) (fun z => z)⟩
  obtain ⟨t2, a1, b1⟩ := kk z T'.heap (locs ++ Lc) ls hl hw' hS' T' rfl X'
  exact ⟨t2, hst t2 a1, b1⟩
