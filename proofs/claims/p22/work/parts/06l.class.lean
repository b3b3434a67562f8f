/-! The class: what is asked of it. -/
theorem CR.out1 {v u : rcM} {f p tx : Nat → Int32} {n ln : Nat} (h : CR v f p n tx ln) (hn : n ≤ 4) (o : Out v u 1) : CR u f p n tx ln := h.frame hn (fun id hb _ _ => o id hb) (by rw [o 3 (by unfold Blk; omega)])
theorem CR.set6 {v : rcM} {f p tx : Nat → Int32} {n ln : Nat} {a b c d e : Int32} (h : CR v f p n tx ln) (hn : n ≤ 4) : CR (setD v 6 a b c d e) f p n tx ln := h.frame hn (fun id _ h6 _ => setD_n h6) (by rw [setD_n (by decide)])
theorem CR.out0 {v u : rcM} {f g p tx : Nat → Int32} {n ln : Nat} (h : CR v f p n tx ln) (hn : n ≤ 4) (o : Out v u 0) (hg : Rep u 0 g) : CR u g p n tx ln := by
  obtain ⟨-, h1, ⟨q, hq, hr⟩, h3, h4⟩ := h
  refine ⟨hg, by rw [o 1 (by unfold Blk; omega)]; exact h1, ⟨q, ?_, fun j hj => ?_⟩, by rw [o 3 (by unfold Blk; omega)]; exact h3, fun i hi => by rw [o 4 (by unfold Blk; omega)]; exact h4 i hi⟩
  · unfold HQ at *; rw [o 2 (by unfold Blk; omega)]; exact hq
  · have b := hq.1 j (by omega)
    exact (hr j hj).out o (by omega)
def KX (a : Int32) (f p : Nat → Int32) (n : Nat) (tx : Nat → Int32) (ln : Nat) : Option Value → rcM → Prop := fun r u => r = some (.int a) ∧ CR u f p n tx ln
def KXq (q : rcS) (tx : Nat → Int32) (ln : Nat) : Option Value → rcM → Prop := KX q.1 q.2.1 q.2.2.1 q.2.2.2 tx ln
def KLA (v : rcM) (k : Nat) (f : Nat → Int32) (c : Nat) : Option Value → rcM → Prop := fun r u => match A_look 11 [] f c with
  | none => r = some (.int 0) ∧ Out v u k
  | some g => r = some (.int 1) ∧ Rep u k g ∧ Out v u k ∧ (AF f → u (sid k) 9 = 0 ||| A_bits 11 [] f c)
theorem pre_0 {f : Nat → Int32} (w : WF f) : Pre [] f := ⟨w, fun o ho => by cases ho⟩
theorem oko_0 : OkO [] := ⟨List.nodup_nil, fun o ho => by cases ho⟩
set_option maxHeartbeats 4000000 in
set_option maxRecDepth 100000 in
theorem c_lookAt {Y : rcY} {la : Launch} {v : rcM} {k c : Nat} {f : Nat → Int32} (hk : k < 6) (hc : c < 10) (hR : Rep v k f) (hz : Zr v k) (hw : WF f) : rcT shC 139 Y la 46 (yX3_lookAt, cX3_lookAt, 2, (some .boolean)) [.ref (Y.2.1 (sid k)), .int (nI c)] (v) (KLA v k f c) := by
  refine rcT.of (by decide +kernel) (Nat.le_of_ble_eq_true rfl) (fun X F hn => ?_)
  refine j_aload_n F.1 dX3_lookAt_0 rfl ?_
  refine j_iload_n F.1 dX3_lookAt_1 rfl ?_
  refine j_iconst F.1 (0) dX3_lookAt_2 (by decide) ?_
  refine j_callV F (LKC_all hk 11 _ [] f c v hc hR hz.bg (pre_0 hw) oko_0 rfl) co_X3_look ml_X3_84 im_X3_look se_X3_look in_X3 rc_X3_look rfl (by decide) (by decide) (sh_st hk) rfl rfl (Nat.le_of_ble_eq_true rfl) dX3_lookAt_3 (fun r u hr => ?_)
  unfold KL2 at hr
  cases e : A_look 11 [] f c with
  | none =>
    rw [e] at hr
    obtain ⟨rfl, ho⟩ := hr
    refine j_tl ?_
    refine j_iconst F.1 (-1) dX3_lookAt_6 (by decide) ?_
    refine j_icmp_eq F.1 14 dX3_lookAt_7 (by decide) (fun _ => ?_) (fun h7 => False.elim (by revert h7; decide))
    refine j_iconst F.1 (0) dX3_lookAt_14 (by decide) ?_
    exact j_zret F (by first | exact Or.inl rfl | exact Or.inr rfl | exact b2_01 _) dX3_lookAt_15 ((by unfold KLA; rw [e]; exact ⟨rfl, ho⟩))
  | some g =>
    rw [e] at hr
    obtain ⟨rfl, Re, Be, Oe, Se⟩ := hr
    have hgd := A_look_good 11 _ _ _ _ hc (pre_0 hw) e
    have hch := chg_ok (((pre_0 hw).next hgd.1).1) hc hgd.2
    refine j_tl ?_
    refine j_iconst F.1 (-1) dX3_lookAt_6 (by decide) ?_
    refine j_icmp_eq F.1 14 dX3_lookAt_7 (by decide) (fun h7 => ?_) (fun h7 => ?_)
    · exact absurd h7 (chg_n1 hch)
    · refine j_iconst F.1 (1) dX3_lookAt_10 (by decide) ?_
      refine j_goto F.1 15 dX3_lookAt_11 (by decide) ?_
      exact j_zret F (by first | exact Or.inl rfl | exact Or.inr rfl | exact b2_01 _) dX3_lookAt_15 ((by unfold KLA; rw [e]; exact ⟨rfl, Re, Oe, fun z => by rw [Se z, hz.2]⟩))
set_option maxHeartbeats 4000000 in
set_option maxRecDepth 100000 in
theorem c_isWithin {Y : rcY} {la : Launch} {v : rcM} {x a b : Int32} : rcT shC 139 Y la 0 (yX5_isWithin, cX5_isWithin, 3, (some .boolean)) [.int x, .int a, .int b] (v) (rI (b2 (a ≤ x ∧ x ≤ b)) v) := by
  refine rcT.of (by decide +kernel) (Nat.le_of_ble_eq_true rfl) (fun X F hn => ?_)
  refine j_iload_n F.1 dX5_isWithin_0 rfl ?_
  refine j_iload_n F.1 dX5_isWithin_1 rfl ?_
  refine j_icmp_lt F.1 14 dX5_isWithin_2 (by decide) (fun h2 => ?_) (fun h2 => ?_)
  · have hz := in_f1 (b := b) h2
    refine j_iconst F.1 (0) dX5_isWithin_14 (by decide) ?_
    exact j_zret F (by first | exact Or.inl rfl | exact Or.inr rfl | exact b2_01 _) dX5_isWithin_15 ((rIe hz rfl))
  · refine j_iload_n F.1 dX5_isWithin_5 rfl ?_
    refine j_iload_n F.1 dX5_isWithin_6 rfl ?_
    refine j_icmp_gt F.1 14 dX5_isWithin_7 (by decide) (fun h7 => ?_) (fun h7 => ?_)
    · have hz := in_f2 (a := a) h7
      refine j_iconst F.1 (0) dX5_isWithin_14 (by decide) ?_
      exact j_zret F (by first | exact Or.inl rfl | exact Or.inr rfl | exact b2_01 _) dX5_isWithin_15 ((rIe hz rfl))
    · have hz := in_t h2 h7
      refine j_iconst F.1 (1) dX5_isWithin_10 (by decide) ?_
      refine j_goto F.1 15 dX5_isWithin_11 (by decide) ?_
      exact j_zret F (by first | exact Or.inl rfl | exact Or.inr rfl | exact b2_01 _) dX5_isWithin_15 ((rIe hz rfl))
set_option maxHeartbeats 4000000 in
set_option maxRecDepth 100000 in
theorem c_isCell {Y : rcY} {la : Launch} {v : rcM} {x : Int32} : rcT shC 139 Y la 1 (yX5_isCell, cX5_isCell, 1, (some .boolean)) [.int x] (v) (rI (b2 (0 ≤ x ∧ x ≤ 9)) v) := by
  refine rcT.of (by decide +kernel) (Nat.le_of_ble_eq_true rfl) (fun X F hn => ?_)
  refine j_iload_n F.1 dX5_isCell_0 rfl ?_
  refine j_iconst F.1 (0) dX5_isCell_1 (by decide) ?_
  refine j_bipush F.1 (9) dX5_isCell_2 (by decide) ?_
  refine j_callSi F (c_isWithin) co_X5_isWithin ml_X5_75 st_X5_isWithin in_X5 rc_X5_isWithin rfl (by decide) (by decide) rfl (Nat.le_of_ble_eq_true rfl) dX5_isCell_4 ?_
  exact j_zret F (by first | exact Or.inl rfl | exact Or.inr rfl | exact b2_01 _) dX5_isCell_7 ⟨rfl, rfl⟩
set_option maxHeartbeats 4000000 in
set_option maxRecDepth 100000 in
theorem c_isValue {Y : rcY} {la : Launch} {v : rcM} {x : Int32} : rcT shC 139 Y la 1 (yX5_isValue, cX5_isValue, 1, (some .boolean)) [.int x] (v) (rI (b2 (-99999 ≤ x ∧ x ≤ 99999)) v) := by
  refine rcT.of (by decide +kernel) (Nat.le_of_ble_eq_true rfl) (fun X F hn => ?_)
  refine j_iload_n F.1 dX5_isValue_0 rfl ?_
  refine j_ldc F cn_X5_208 dX5_isValue_1 ?_
  refine j_ldc F cn_X5_209 dX5_isValue_3 ?_
  refine j_callSi F (c_isWithin) co_X5_isWithin ml_X5_75 st_X5_isWithin in_X5 rc_X5_isWithin rfl (by decide) (by decide) rfl (Nat.le_of_ble_eq_true rfl) dX5_isValue_5 ?_
  exact j_zret F (by first | exact Or.inl rfl | exact Or.inr rfl | exact b2_01 _) dX5_isValue_8 ⟨rfl, rfl⟩
set_option maxHeartbeats 4000000 in
set_option maxRecDepth 100000 in
theorem c_isKind {Y : rcY} {la : Launch} {v : rcM} {x : Int32} : rcT shC 139 Y la 1 (yX5_isKind, cX5_isKind, 1, (some .boolean)) [.int x] (v) (rI (b2 (0 ≤ x ∧ x ≤ 4)) v) := by
  refine rcT.of (by decide +kernel) (Nat.le_of_ble_eq_true rfl) (fun X F hn => ?_)
  refine j_iload_n F.1 dX5_isKind_0 rfl ?_
  refine j_iconst F.1 (0) dX5_isKind_1 (by decide) ?_
  refine j_iconst F.1 (4) dX5_isKind_2 (by decide) ?_
  refine j_callSi F (c_isWithin) co_X5_isWithin ml_X5_75 st_X5_isWithin in_X5 rc_X5_isWithin rfl (by decide) (by decide) rfl (Nat.le_of_ble_eq_true rfl) dX5_isKind_3 ?_
  exact j_zret F (by first | exact Or.inl rfl | exact Or.inr rfl | exact b2_01 _) dX5_isKind_6 ⟨rfl, rfl⟩
theorem third_0 {k z : Int32} (hk : ¬ k = 4) : (0 ≤ z ∧ z ≤ (if k = 4 then (9 : Int32) else 0)) ↔ z = 0 := by
  rw [if_neg hk]
  refine ⟨fun h => Int32.toInt_inj.mp ?_, fun h => by subst h; decide⟩
  have a := Int32.le_iff_toInt_le.mp h.1
  have b := Int32.le_iff_toInt_le.mp h.2
  omega
set_option maxHeartbeats 4000000 in
set_option maxRecDepth 100000 in
theorem c_isThird {Y : rcY} {la : Launch} {v : rcM} {k z : Int32} : rcT shC 139 Y la 2 (yX5_isThird, cX5_isThird, 2, (some .boolean)) [.int k, .int z] (v) (rI (b2 (0 ≤ z ∧ z ≤ (if k = 4 then (9 : Int32) else 0))) v) := by
  refine rcT.of (by decide +kernel) (Nat.le_of_ble_eq_true rfl) (fun X F hn => ?_)
  refine j_iload_n F.1 dX5_isThird_0 rfl ?_
  refine j_iconst F.1 (4) dX5_isThird_1 (by decide) ?_
  refine j_icmp_ne F.1 12 dX5_isThird_2 (by decide) (fun h2 => ?_) (fun h2 => ?_)
  · refine j_iload_n F.1 dX5_isThird_12 rfl ?_
    refine j_if_ne F.1 20 dX5_isThird_13 (by decide) (fun h13 => ?_) (fun h13 => ?_)
    · have hz : (0 : Int32) = b2 (0 ≤ z ∧ z ≤ (if k = 4 then (9 : Int32) else 0)) := (b2_f (fun q => h13 ((third_0 h2).mp q))).symm
      refine j_iconst F.1 (0) dX5_isThird_20 (by decide) ?_
      exact j_zret F (by first | exact Or.inl rfl | exact Or.inr rfl | exact b2_01 _) dX5_isThird_21 ((rIe hz rfl))
    · have hz : (1 : Int32) = b2 (0 ≤ z ∧ z ≤ (if k = 4 then (9 : Int32) else 0)) := (b2_t ((third_0 h2).mpr (by first | exact h13 | exact Classical.not_not.mp h13))).symm
      refine j_iconst F.1 (1) dX5_isThird_16 (by decide) ?_
      refine j_goto F.1 21 dX5_isThird_17 (by decide) ?_
      exact j_zret F (by first | exact Or.inl rfl | exact Or.inr rfl | exact b2_01 _) dX5_isThird_21 ((rIe hz rfl))
  · refine j_iload_n F.1 dX5_isThird_5 rfl ?_
    refine j_callSi F (c_isCell) co_X5_isCell ml_X5_40 st_X5_isCell in_X5 rc_X5_isCell rfl (by decide) (by decide) rfl (Nat.le_of_ble_eq_true rfl) dX5_isThird_6 ?_
    have hz : b2 (0 ≤ z ∧ z ≤ 9) = b2 (0 ≤ z ∧ z ≤ (if k = 4 then (9 : Int32) else 0)) := by rw [if_pos h2]
    refine j_goto F.1 21 dX5_isThird_9 (by decide) ?_
    exact j_zret F (by first | exact Or.inl rfl | exact Or.inr rfl | exact b2_01 _) dX5_isThird_21 ((rIe hz rfl))
