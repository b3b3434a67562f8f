/-! The class: looks. -/
/-- nothing remembered is stale -/
def AF (f : Nat → Int32) : Prop := ∀ i, i < 10 → f (ix i 6) = 1 → f (ix i 9) = f 0
theorem OpC.af {f g : Nat → Int32} {c : Nat} (h : OpC f g c) (hf : AF f) (hc : g (ix c 9) = f 0) : AF g := fun i hi h6 => by
  by_cases e : i = c
  · subst e; rw [hc, h.1]
  · rw [h.2.2.2.1 i 9 e (by decide), h.1]
    rw [h.2.2.2.1 i 6 e (by decide)] at h6
    exact hf i hi h6
theorem end_af {f : Nat → Int32} {c : Nat} {its many o2 : Int32} (hf : AF f) : AF (A_end f c its many o2) := by
  unfold A_end
  split
  · exact end1_op.af hf end1_9
  · exact end1_op.af hf end1_9
theorem AF_look : ∀ (n : Nat) (O : List Nat) (f : Nat → Int32) (c : Nat) (g : Nat → Int32), c < 10 → Pre O f → AF f → A_look n O f c = some g → AF g := by
  intro n
  induction n with
  | zero => intro O f c g _ _ _ h; cases h
  | succ n ih =>
    intro O f c g hc hP hA h
    rw [A_look_s] at h
    by_cases h0 : f (ix c 0) = 0
    · rw [if_pos h0] at h; cases h; exact hA
    · rw [if_neg h0] at h
      by_cases h6 : f (ix c 6) = 1 ∧ f (ix c 9) = f 0
      · rw [if_pos h6] at h; cases h
        exact take_op.af hA (by rw [take_f (by decide)]; exact h6.2)
      · rw [if_neg h6] at h
        by_cases hO : c ∈ O
        · rw [if_pos hO] at h; cases h
        · rw [if_neg hO] at h
          have h1 : ¬ f (ix c 6) = 1 := fun z => h6 ⟨z, hA c hc z⟩
          rw [if_neg h1] at h
          have hP' : Pre (c :: O) f := ⟨hP.1, fun o ho => by
            rcases List.mem_cons.mp ho with rfl | ho
            · exact fun q => q.elim h0 h6
            · exact hP.2 o ho⟩
          unfold A_work at h
          have hx := cN_ok ((hP.1.1 c hc).2.2.1 h0).2.1
          cases e1 : A_look n (c :: O) f (cN (f (ix c 2))) with
          | none => rw [e1] at h; cases h
          | some f1 =>
            rw [e1] at h
            have A1 := ih _ _ _ _ hx.1 hP' hA e1
            obtain ⟨g1, fr1⟩ := A_look_good n _ _ _ _ hx.1 hP' e1
            have P1 := hP'.next g1
            dsimp only at h
            split at h
            · cases h; exact end_af A1
            · have h01 : ¬ f1 (ix c 0) = 0 := by rw [g1.2.2.2.1 c hc 0 (by decide)]; exact h0
              have hy := cN_ok (nxt_ok (x := A_ans f1 (cN (f (ix c 2)))) P1.1 hc h01)
              cases e2 : A_look n (c :: O) f1 (cN (A_nxt f1 c (A_ans f1 (cN (f (ix c 2)))))) with
              | none => rw [e2] at h; cases h
              | some f2 =>
                rw [e2] at h; cases h
                exact end_af (ih _ _ _ _ hy.1 P1 A1 e2)
/-- the cells that a look meets -/
def A_bits : Nat → List Nat → (Nat → Int32) → Nat → Int32
  | 0, _, _, _ => 0
  | n + 1, O, f, c => bitI (nI c) ||| (if f (ix c 0) = 0 ∨ (f (ix c 6) = 1 ∧ f (ix c 9) = f 0) then 0 else
      (A_bits n (c :: O) f (cN (f (ix c 2))) ||| (match A_look n (c :: O) f (cN (f (ix c 2))) with
        | none => 0
        | some f1 => if f1 (ix c 0) = 5 ∧ A_ans f1 (cN (f (ix c 2))) = 2000000000 then 0 else A_bits n (c :: O) f1 (cN (A_nxt f1 c (A_ans f1 (cN (f (ix c 2)))))))))
def W_bits (n : Nat) (O : List Nat) (f : Nat → Int32) (c : Nat) : Int32 := A_bits n (c :: O) f (cN (f (ix c 2))) ||| (match A_look n (c :: O) f (cN (f (ix c 2))) with
        | none => 0
        | some f1 => if f1 (ix c 0) = 5 ∧ A_ans f1 (cN (f (ix c 2))) = 2000000000 then 0 else A_bits n (c :: O) f1 (cN (A_nxt f1 c (A_ans f1 (cN (f (ix c 2)))))))
theorem A_bits_s (n : Nat) (O : List Nat) (f : Nat → Int32) (c : Nat) : A_bits (n + 1) O f c = bitI (nI c) ||| (if f (ix c 0) = 0 ∨ (f (ix c 6) = 1 ∧ f (ix c 9) = f 0) then 0 else W_bits n O f c) := rfl
def KL2 (v : rcM) (k n : Nat) (O : List Nat) (f : Nat → Int32) (c : Nat) : Option Value → rcM → Prop := fun r u => match A_look n O f c with
  | none => r = some (.int (-1)) ∧ Out v u k
  | some g => r = some (.int (A_chg g c)) ∧ Rep u k g ∧ Bg u k O ∧ Out v u k ∧ (AF f → u (sid k) 9 = v (sid k) 9 ||| A_bits n O f c)
def LKC (Y : rcY) (k n : Nat) : Prop := ∀ (la : Launch) (O : List Nat) (f : Nat → Int32) (c : Nat) (v : rcM), c < 10 → Rep v k f → Bg v k O → Pre O f → OkO O → O.length + n = 11 →
  rcT shC 139 Y la (4 * n + 1) (yX3_look, cX3_look, 5, (some .int)) [.ref (Y.2.1 (sid k)), .int (nI c), .int (nI O.length)] v (KL2 v k n O f c)
/-- what bringing up to date comes to -/
def KW (v : rcM) (k : Nat) (O : List Nat) (c : Nat) (R : Option (Nat → Int32)) (B : Prop) (S : Int32) : Option Value → rcM → Prop := fun r u => match R with
  | none => r = some (.int 0) ∧ Out v u k
  | some g => r = some (.int 1) ∧ (∃ g0, A_uses g0 c = g ∧ Rep u k g0) ∧ Bg u k (c :: O) ∧ Out v u k ∧ (B → u (sid k) 9 = v (sid k) 9 ||| S)
theorem chg_n1 {x : Int32} (h : 0 ≤ x.toInt) : ¬ x = -1 := fun z => by
  rw [z] at h
  exact absurd h (by decide)
theorem or_a {a b c : Int32} : a ||| b ||| c = a ||| (b ||| c) := Int32.or_assoc a b c
theorem wo_1 {v u : rcM} {k n c : Nat} {O : List Nat} {f f1 g0 : Nat → Int32} (e1 : A_look n (c :: O) f (cN (f (ix c 2))) = some f1) (hs : f1 (ix c 0) = 5 ∧ A_ans f1 (cN (f (ix c 2))) = 2000000000) (hg : A_uses g0 c = A_end f1 c 2000000000 1 0) (hr : Rep u k g0) (hb : Bg u k (c :: O)) (ho : Out v u k) (hS : AF f → u (sid k) 9 = v (sid k) 9 ||| A_bits n (c :: O) f (cN (f (ix c 2)))) : KW v k O c (A_work n O f c) (AF f) (W_bits n O f c) (some (.int 1)) u := by
  unfold KW A_work W_bits
  rw [e1]
  dsimp only
  rw [if_pos hs, if_pos hs]
  exact ⟨rfl, ⟨g0, hg, hr⟩, hb, ho, fun z => by rw [hS z, Int32.or_zero]⟩
theorem wo_2 {v u : rcM} {k n c : Nat} {O : List Nat} {f f1 f2 g0 : Nat → Int32} (e1 : A_look n (c :: O) f (cN (f (ix c 2))) = some f1) (hs : ¬ (f1 (ix c 0) = 5 ∧ A_ans f1 (cN (f (ix c 2))) = 2000000000)) (e2 : A_look n (c :: O) f1 (cN (A_nxt f1 c (A_ans f1 (cN (f (ix c 2)))))) = some f2) (exx : A_ans f2 (cN (f (ix c 2))) = A_ans f1 (cN (f (ix c 2)))) (hg : A_uses g0 c = A_end f2 c (A_made (f2 (ix c 0)) (A_ans f1 (cN (f (ix c 2)))) (A_ans f2 (cN (A_nxt f1 c (A_ans f1 (cN (f (ix c 2)))))))) 2 (A_nxt f1 c (A_ans f1 (cN (f (ix c 2)))))) (hr : Rep u k g0) (hb : Bg u k (c :: O)) (ho : Out v u k) (hS : AF f → u (sid k) 9 = v (sid k) 9 ||| A_bits n (c :: O) f (cN (f (ix c 2))) ||| A_bits n (c :: O) f1 (cN (A_nxt f1 c (A_ans f1 (cN (f (ix c 2))))))) : KW v k O c (A_work n O f c) (AF f) (W_bits n O f c) (some (.int 1)) u := by
  unfold KW A_work W_bits
  rw [e1]
  dsimp only
  rw [if_neg hs, if_neg hs, e2]
  dsimp only
  rw [exx]
  exact ⟨rfl, ⟨g0, hg, hr⟩, hb, ho, fun z => by rw [hS z, or_a]⟩
set_option maxHeartbeats 4000000 in
set_option maxRecDepth 100000 in
theorem c_workOut {Y : rcY} {la : Launch} {v : rcM} {k n c : Nat} {O : List Nat} {f : Nat → Int32} (hk : k < 6) (ih : LKC Y k n) (hc : c < 10) (hR : Rep v k f) (hB : Bg v k (c :: O)) (hP : Pre (c :: O) f) (hO : OkO (c :: O)) (hn11 : (c :: O).length + n = 11) (h0 : ¬ f (ix c 0) = 0) : rcT shC 139 Y la (4 * n + 2) (yX3_workOut, cX3_workOut, 6, (some .boolean)) [.ref (Y.2.1 (sid k)), .ref (Y.2.1 (cid k c)), .int (nI (O.length + 1))] (v) (KW v k O c (A_work n O f c) (AF f) (W_bits n O f c)) := by
  refine rcT.of (by decide +kernel) (Nat.le_of_ble_eq_true rfl) (fun X F hn => ?_)
  have hx := cN_ok ((hP.1.1 c hc).2.2.1 h0).2.1
  refine j_aload_n F.1 dX3_workOut_0 rfl ?_
  refine j_getr F (k := 0) inX0 rfl (by decide) fl_X3_50 (sh_cell hk hc) rfl dX3_workOut_1 ?_
  refine j_astore_n F.1 dX3_workOut_4 (by rw [hn]; decide) ?_
  refine j_aload_n F.1 dX3_workOut_5 rfl ?_
  refine j_aload_n F.1 dX3_workOut_6 rfl ?_
  refine j_geti F (k := 2) inX1 rfl (by decide) fl_X3_108 (sh_def hk hc) rfl dX3_workOut_7 ?_
  refine j_top (y := nI (cN (f (ix c 2)))) (by rw [(hR.1 c hc).1.2.2.1]; exact hx.2) ?_
  refine j_iload_n F.1 dX3_workOut_10 rfl ?_
  refine j_callV F (ih _ _ _ _ _ hx.1 hR hB hP hO hn11) co_X3_look ml_X3_84 im_X3_look se_X3_look in_X3 rc_X3_look rfl (by omega) (by decide) (sh_st hk) rfl rfl (Nat.le_of_ble_eq_true rfl) dX3_workOut_11 (fun r u hr => ?_)
  unfold KL2 at hr
  cases e1 : A_look n (c :: O) f (cN (f (ix c 2))) with
  | none =>
    rw [e1] at hr
    obtain ⟨rfl, hoe1⟩ := hr
    refine j_tl ?_
    refine j_iconst F.1 (-1) dX3_workOut_14 (by decide) ?_
    refine j_icmp_ne F.1 20 dX3_workOut_15 (by decide) (fun h15 => False.elim (by revert h15; decide)) (fun _ => ?_)
    refine j_iconst F.1 (0) dX3_workOut_18 (by decide) ?_
    exact j_zret F (by first | exact Or.inl rfl | exact Or.inr rfl | exact b2_01 _) dX3_workOut_19 ((by unfold KW A_work; rw [e1]; exact ⟨rfl, hoe1⟩))
  | some f1 =>
    rw [e1] at hr
    obtain ⟨rfl, Re1, Be1, Oe1, Se1⟩ := hr
    refine j_tl ?_
    obtain ⟨g1, fr1⟩ := A_look_good n _ _ _ _ hx.1 hP e1
    have P1 := hP.next g1
    have h01 : ¬ f1 (ix c 0) = 0 := by rw [g1.2.2.2.1 c hc 0 (by decide)]; exact h0
    have hch := chg_ok P1.1 hx.1 fr1
    refine j_iconst F.1 (-1) dX3_workOut_14 (by decide) ?_
    refine j_icmp_ne F.1 20 dX3_workOut_15 (by decide) (fun h15 => ?_) (fun h15 => ?_)
    · refine j_aload_n F.1 dX3_workOut_20 rfl ?_
      refine j_getr F (k := 0) inX3 rfl (by decide) fl_X3_11 (sh_st hk) rfl dX3_workOut_21 ?_
      refine j_aload_n F.1 dX3_workOut_24 rfl ?_
      refine j_geti F (k := 2) inX1 rfl (by decide) fl_X3_108 (sh_def hk hc) rfl dX3_workOut_25 ?_
      refine j_aald3 F (sh_arr hk) (by rw [(Re1.1 c hc).1.2.2.1, g1.2.2.2.1 c hc 2 (by decide)]; exact hx.2) hx.1 (by decide) dX3_workOut_28 ?_
      refine j_callVi F (c_told hk hx.1) co_X0_told ml_X3_114 im_X0_told se_X0_told in_X0 rc_X0_told rfl (by omega) (by decide) (sh_cell hk hx.1) rfl rfl (Nat.le_of_ble_eq_true rfl) dX3_workOut_29 ?_
      refine j_top (Re1.told hx.1 fr1) ?_
      refine j_istore F.1 dX3_workOut_32 (by rw [hn]; decide) ?_
      refine j_aload_n F.1 dX3_workOut_34 rfl ?_
      refine j_iload F.1 dX3_workOut_35 rfl ?_
      refine j_callVi F (c_secondFor (sh_def hk hc)) co_X1_secondFor ml_X3_117 im_X1_secondFor se_X1_secondFor in_X1 rc_X1_secondFor rfl (by omega) (by decide) (sh_def hk hc) rfl rfl (Nat.le_of_ble_eq_true rfl) dX3_workOut_37 ?_
      refine j_top (Re1.sec hc) ?_
      by_cases hs : f1 (ix c 0) = 5 ∧ A_ans f1 (cN (f (ix c 2))) = 2000000000
      · refine j_top (y := -1) (if_pos hs) ?_
        refine j_istore F.1 dX3_workOut_40 (by rw [hn]; decide) ?_
        refine j_iload F.1 dX3_workOut_42 rfl ?_
        refine j_iconst F.1 (-1) dX3_workOut_44 (by decide) ?_
        refine j_icmp_ne F.1 58 dX3_workOut_45 (by decide) (fun h45 => False.elim (by revert h45; decide)) (fun _ => ?_)
        refine j_aload_n F.1 dX3_workOut_48 rfl ?_
        refine j_aload_n F.1 dX3_workOut_49 rfl ?_
        refine j_ldc F cn_X3_121 dX3_workOut_50 ?_
        refine j_iconst F.1 (-1) dX3_workOut_52 (by decide) ?_
        refine j_callV F (c_remember (its := 2000000000) (sec := -1) (many := 1) (o2 := 0) hk Re1 hc h01 rfl) co_X3_remember ml_X3_122 im_X3_remember se_X3_remember in_X3 rc_X3_remember rfl (by omega) (by decide) (sh_st hk) rfl rfl (Nat.le_of_ble_eq_true rfl) dX3_workOut_53 (fun r u hr => ?_)
        obtain ⟨rfl, ⟨g0, hg0, hr0⟩, hkp⟩ := hr
        refine j_iconst F.1 (1) dX3_workOut_56 (by decide) ?_
        exact j_zret F (by first | exact Or.inl rfl | exact Or.inr rfl | exact b2_01 _) dX3_workOut_57 ((wo_1 e1 hs hg0 hr0 (hkp.bg Be1) (Oe1.tr hkp.1) (fun z => by rw [hkp.2.2]; exact Se1 z)))
      · have hy := cN_ok (nxt_ok (x := A_ans f1 (cN (f (ix c 2)))) P1.1 hc h01)
        refine j_top (y := nI (cN (A_nxt f1 c (A_ans f1 (cN (f (ix c 2))))))) (by rw [if_neg hs]; exact hy.2) ?_
        refine j_istore F.1 dX3_workOut_40 (by rw [hn]; decide) ?_
        refine j_iload F.1 dX3_workOut_42 rfl ?_
        refine j_iconst F.1 (-1) dX3_workOut_44 (by decide) ?_
        refine j_icmp_ne F.1 58 dX3_workOut_45 (by decide) (fun h45 => ?_) (fun h45 => ?_)
        · refine j_aload_n F.1 dX3_workOut_58 rfl ?_
          refine j_iload F.1 dX3_workOut_59 rfl ?_
          refine j_iload_n F.1 dX3_workOut_61 rfl ?_
          refine j_callV F (ih _ _ _ _ _ hy.1 Re1 Be1 P1 hO hn11) co_X3_look ml_X3_84 im_X3_look se_X3_look in_X3 rc_X3_look rfl (by omega) (by decide) (sh_st hk) rfl rfl (Nat.le_of_ble_eq_true rfl) dX3_workOut_62 (fun r u hr => ?_)
          unfold KL2 at hr
          cases e2 : A_look n (c :: O) f1 (cN (A_nxt f1 c (A_ans f1 (cN (f (ix c 2)))))) with
          | none =>
            rw [e2] at hr
            obtain ⟨rfl, hoe2⟩ := hr
            refine j_tl ?_
            refine j_iconst F.1 (-1) dX3_workOut_65 (by decide) ?_
            refine j_icmp_ne F.1 71 dX3_workOut_66 (by decide) (fun h66 => False.elim (by revert h66; decide)) (fun _ => ?_)
            refine j_iconst F.1 (0) dX3_workOut_69 (by decide) ?_
            exact j_zret F (by first | exact Or.inl rfl | exact Or.inr rfl | exact b2_01 _) dX3_workOut_70 ((by unfold KW A_work; rw [e1]; dsimp only; rw [if_neg hs, e2]; exact ⟨rfl, Oe1.tr hoe2⟩))
          | some f2 =>
            rw [e2] at hr
            obtain ⟨rfl, Re2, Be2, Oe2, Se2⟩ := hr
            refine j_tl ?_
            obtain ⟨g2, fr2⟩ := A_look_good n _ _ _ _ hy.1 P1 e2
            have P2 := P1.next g2
            have h02 : ¬ f2 (ix c 0) = 0 := by rw [g2.2.2.2.1 c hc 0 (by decide)]; exact h01
            have hchn2 : ¬ A_chg f2 (cN (A_nxt f1 c (A_ans f1 (cN (f (ix c 2)))))) = -1 := chg_n1 (chg_ok P2.1 hy.1 fr2)
            have exx := (g2.2.2.2.2.2.1 _ hx.1 fr1).2.1
            have ax : okA (A_ans f1 (cN (f (ix c 2)))) := ans_ok P1.1 hx.1 fr1
            have ay : okA (A_ans f2 (cN (A_nxt f1 c (A_ans f1 (cN (f (ix c 2))))))) := ans_ok P2.1 hy.1 fr2
            have hsec : nI (cN (A_nxt f1 c (A_ans f1 (cN (f (ix c 2)))))) = if (2 : Int32) = 1 then -1 else A_nxt f1 c (A_ans f1 (cN (f (ix c 2)))) := by rw [if_neg (by decide)]; exact hy.2.symm
            refine j_iconst F.1 (-1) dX3_workOut_65 (by decide) ?_
            refine j_icmp_ne F.1 71 dX3_workOut_66 (by decide) (fun h66 => ?_) (fun h66 => ?_)
            · refine j_aload_n F.1 dX3_workOut_71 rfl ?_
              refine j_aload_n F.1 dX3_workOut_72 rfl ?_
              refine j_aload_n F.1 dX3_workOut_73 rfl ?_
              refine j_iload F.1 dX3_workOut_74 rfl ?_
              refine j_aload_n F.1 dX3_workOut_76 rfl ?_
              refine j_getr F (k := 0) inX3 rfl (by decide) fl_X3_11 (sh_st hk) rfl dX3_workOut_77 ?_
              refine j_iload F.1 dX3_workOut_80 rfl ?_
              refine j_aald3 F (sh_arr hk) rfl hy.1 (by decide) dX3_workOut_82 ?_
              refine j_callVi F (c_told hk hy.1) co_X0_told ml_X3_114 im_X0_told se_X0_told in_X0 rc_X0_told rfl (by omega) (by decide) (sh_cell hk hy.1) rfl rfl (Nat.le_of_ble_eq_true rfl) dX3_workOut_83 ?_
              refine j_top (Re2.told hy.1 fr2) ?_
              refine j_callVi F (c_give (sh_def hk hc)) co_X1_give ml_X3_126 im_X1_give se_X1_give in_X1 rc_X1_give rfl (by omega) (by decide) (sh_def hk hc) rfl rfl (Nat.le_of_ble_eq_true rfl) dX3_workOut_86 ?_
              refine j_top (Re2.give hc ax ay h02) ?_
              refine j_iload F.1 dX3_workOut_89 rfl ?_
              refine j_callV F (c_remember (many := 2) (o2 := A_nxt f1 c (A_ans f1 (cN (f (ix c 2))))) hk Re2 hc h02 hsec) co_X3_remember ml_X3_122 im_X3_remember se_X3_remember in_X3 rc_X3_remember rfl (by omega) (by decide) (sh_st hk) rfl rfl (Nat.le_of_ble_eq_true rfl) dX3_workOut_91 (fun r u hr => ?_)
              obtain ⟨rfl, ⟨g0, hg0, hr0⟩, hkp⟩ := hr
              refine j_iconst F.1 (1) dX3_workOut_94 (by decide) ?_
              exact j_zret F (by first | exact Or.inl rfl | exact Or.inr rfl | exact b2_01 _) dX3_workOut_95 ((wo_2 e1 hs e2 exx hg0 hr0 (hkp.bg Be2) ((Oe1.tr Oe2).tr hkp.1) (fun z => by rw [hkp.2.2, Se2 (AF_look n _ _ _ _ hx.1 hP z e1), Se1 z])))
            · exact absurd h66 hchn2
        · exact absurd h45 (fun z => nI_pos (n := (cN (A_nxt f1 c (A_ans f1 (cN (f (ix c 2))))))) (by have := hy.1; omega) (by rw [z]; decide))
    · exact absurd h15 (chg_n1 hch)
