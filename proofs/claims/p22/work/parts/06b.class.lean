/-! The class: a state is copied; what a state stands for. -/
def Blk (k id : Nat) : Prop := 22 * k + 7 ≤ id ∧ id < 22 * k + 29
/-- nothing but block k is changed -/
def Out (v u : rcM) (k : Nat) : Prop := ∀ id, ¬ Blk k id → u id = v id
theorem Out.rf {v : rcM} {k : Nat} : Out v v k := fun _ _ => rfl
theorem Out.tr {u v w : rcM} {k : Nat} (a : Out u v k) (b : Out v w k) : Out u w k := fun id h => (b id h).trans (a id h)
theorem copyC_n {v : rcM} {p q id : Nat} (h : id ≠ p) (h2 : id ≠ p + 10) : copyC v p q id = v id := by
  unfold copyC
  rw [rcu_ne h, rcu_ne h, rcu_ne h, rcu_ne h, rcu_ne h, rcu_ne h, rcu_ne h, setD_n h2]
theorem copyC_d {v : rcM} {p q j : Nat} : copyC v p q (p + 10) j = setD v (p + 10) (v (q + 10) 0) (v (q + 10) 1) (v (q + 10) 2) (v (q + 10) 3) (v (q + 10) 4) (p + 10) j := by
  have h : p + 10 ≠ p := by omega
  unfold copyC
  rw [rcu_ne h, rcu_ne h, rcu_ne h, rcu_ne h, rcu_ne h, rcu_ne h, rcu_ne h]
def CpC (v w : rcM) (p q : Nat) : Prop := (w p 1 = v q 1 ∧ w p 2 = rcb (v q 2) ∧ w p 3 = v q 3 ∧ w p 4 = v q 4 ∧ w p 5 = v q 5 ∧ w p 6 = v q 6 ∧ w p 7 = 0) ∧ (w (p + 10) 0 = v (q + 10) 0 ∧ w (p + 10) 1 = v (q + 10) 1 ∧ w (p + 10) 2 = v (q + 10) 2 ∧ w (p + 10) 3 = v (q + 10) 3 ∧ w (p + 10) 4 = v (q + 10) 4)
theorem copyC_p {v : rcM} {p q : Nat} : CpC v (copyC v p q) p q := by
  refine ⟨?_, ?_⟩
  · unfold copyC
    refine ⟨?_, ?_, ?_, ?_, ?_, ?_, ?_⟩
    · rw [rcu_k (by decide), rcu_k (by decide), rcu_k (by decide), rcu_k (by decide), rcu_k (by decide), rcu_k (by decide), rcu_self]
    · rw [rcu_k (by decide), rcu_k (by decide), rcu_k (by decide), rcu_k (by decide), rcu_k (by decide), rcu_self]
    · rw [rcu_k (by decide), rcu_k (by decide), rcu_k (by decide), rcu_k (by decide), rcu_self]
    · rw [rcu_k (by decide), rcu_k (by decide), rcu_k (by decide), rcu_self]
    · rw [rcu_k (by decide), rcu_k (by decide), rcu_self]
    · rw [rcu_k (by decide), rcu_self]
    · rw [rcu_self]
  · rw [copyC_d, copyC_d, copyC_d, copyC_d, copyC_d, setD_0, setD_1, setD_2, setD_3, setD_4]
    exact ⟨rfl, rfl, rfl, rfl, rfl⟩
theorem CpC.congr {v v' w w' : rcM} {p q : Nat} (h : CpC v w p q) (h1 : v' q = v q) (h2 : v' (q + 10) = v (q + 10)) (h3 : w' p = w p) (h4 : w' (p + 10) = w (p + 10)) : CpC v' w' p q := by
  unfold CpC at *
  rw [h1, h2, h3, h4]
  exact h
def CN (v w : rcM) (k k2 t : Nat) : Prop := (∀ i, i < t → CpC v w (cid k i) (cid k2 i)) ∧ ∀ id, (∀ i, i < t → id ≠ cid k i ∧ id ≠ cid k i + 10) → w id = v id
theorem CN_0 {v : rcM} {k k2 : Nat} : CN v v k k2 0 := ⟨fun i h => absurd h (by omega), fun _ _ => rfl⟩
theorem CN_s {v w : rcM} {k k2 t : Nat} (h : CN v w k k2 t) (ht : t < 10) (hne : k ≠ k2) : CN v (copyC w (cid k t) (cid k2 t)) k k2 (t + 1) := by
  refine ⟨fun i hi => ?_, fun id hid => ?_⟩
  · by_cases e : i = t
    · subst e
      refine copyC_p.congr ?_ ?_ rfl rfl
      · refine (h.2 _ (fun j hj => ⟨?_, ?_⟩)).symm
        · show i + (22 * k2 + 9) ≠ j + (22 * k + 9); omega
        · show i + (22 * k2 + 9) ≠ j + (22 * k + 9) + 10; omega
      · refine (h.2 _ (fun j hj => ⟨?_, ?_⟩)).symm
        · show i + (22 * k2 + 9) + 10 ≠ j + (22 * k + 9); omega
        · show i + (22 * k2 + 9) + 10 ≠ j + (22 * k + 9) + 10; omega
    · refine (h.1 i (by omega)).congr rfl rfl (copyC_n ?_ ?_) (copyC_n ?_ ?_)
      · show i + (22 * k + 9) ≠ t + (22 * k + 9); omega
      · show i + (22 * k + 9) ≠ t + (22 * k + 9) + 10; omega
      · show i + (22 * k + 9) + 10 ≠ t + (22 * k + 9); omega
      · show i + (22 * k + 9) + 10 ≠ t + (22 * k + 9) + 10; omega
  · have q := hid t (by omega)
    rw [copyC_n q.1 q.2]
    exact h.2 id (fun i hi => hid i (by omega))
/-- the numbers of a state are laid down -/
def setS (w : rcM) (s : Nat) (a b c d e f g h : Int32) : rcM := rcu (rcu (rcu (rcu (rcu (rcu (rcu (rcu (rcu w s 1 a) s 2 b) s 3 c) s 4 d) s 5 e) s 6 f) s 7 g) s 8 h) s 9 0
theorem setS_n {w : rcM} {s id : Nat} {a b c d e f g h : Int32} (hn : id ≠ s) : setS w s a b c d e f g h id = w id := by
  unfold setS
  rw [rcu_ne hn, rcu_ne hn, rcu_ne hn, rcu_ne hn, rcu_ne hn, rcu_ne hn, rcu_ne hn, rcu_ne hn, rcu_ne hn]
theorem setS_s {w : rcM} {s : Nat} {a b c d e f g h : Int32} : setS w s a b c d e f g h s 1 = a ∧ setS w s a b c d e f g h s 2 = b ∧ setS w s a b c d e f g h s 3 = c ∧ setS w s a b c d e f g h s 4 = d ∧ setS w s a b c d e f g h s 5 = e ∧ setS w s a b c d e f g h s 6 = f ∧ setS w s a b c d e f g h s 7 = g ∧ setS w s a b c d e f g h s 8 = h ∧ setS w s a b c d e f g h s 9 = 0 := by
  unfold setS
  refine ⟨?_, ?_, ?_, ?_, ?_, ?_, ?_, ?_, ?_⟩
  · rw [rcu_k (by decide), rcu_k (by decide), rcu_k (by decide), rcu_k (by decide), rcu_k (by decide), rcu_k (by decide), rcu_k (by decide), rcu_k (by decide), rcu_self]
  · rw [rcu_k (by decide), rcu_k (by decide), rcu_k (by decide), rcu_k (by decide), rcu_k (by decide), rcu_k (by decide), rcu_k (by decide), rcu_self]
  · rw [rcu_k (by decide), rcu_k (by decide), rcu_k (by decide), rcu_k (by decide), rcu_k (by decide), rcu_k (by decide), rcu_self]
  · rw [rcu_k (by decide), rcu_k (by decide), rcu_k (by decide), rcu_k (by decide), rcu_k (by decide), rcu_self]
  · rw [rcu_k (by decide), rcu_k (by decide), rcu_k (by decide), rcu_k (by decide), rcu_self]
  · rw [rcu_k (by decide), rcu_k (by decide), rcu_k (by decide), rcu_self]
  · rw [rcu_k (by decide), rcu_k (by decide), rcu_self]
  · rw [rcu_k (by decide), rcu_self]
  · rw [rcu_self]
/-- state k is a copy of what state k2 was -/
def Cpy (v u : rcM) (k k2 : Nat) : Prop := (∀ i, i < 10 → CpC v u (cid k i) (cid k2 i)) ∧ (u (sid k) 1 = v (sid k2) 1 ∧ u (sid k) 2 = v (sid k2) 2 ∧ u (sid k) 3 = v (sid k2) 3 ∧ u (sid k) 4 = v (sid k2) 4 ∧ u (sid k) 5 = v (sid k2) 5 ∧ u (sid k) 6 = v (sid k2) 6 ∧ u (sid k) 7 = v (sid k2) 7 ∧ u (sid k) 8 = v (sid k2) 8 ∧ u (sid k) 9 = 0) ∧ Out v u k
theorem CN_Cpy {v w : rcM} {k k2 : Nat} (h : CN v w k k2 10) : Cpy v (setS w (sid k) (v (sid k2) 1) (v (sid k2) 2) (v (sid k2) 3) (v (sid k2) 4) (v (sid k2) 5) (v (sid k2) 6) (v (sid k2) 7) (v (sid k2) 8)) k k2 := by
  refine ⟨fun i hi => (h.1 i hi).congr rfl rfl (setS_n ?_) (setS_n ?_), setS_s, fun id hid => ?_⟩
  · show i + (22 * k + 9) ≠ 22 * k + 7; omega
  · show i + (22 * k + 9) + 10 ≠ 22 * k + 7; omega
  · unfold Blk at hid
    rw [setS_n (show id ≠ 22 * k + 7 by omega)]
    refine h.2 id (fun i hi => ⟨?_, ?_⟩)
    · show id ≠ i + (22 * k + 9); omega
    · show id ≠ i + (22 * k + 9) + 10; omega
theorem CN_sid {v w : rcM} {k k2 : Nat} (h : CN v w k k2 10) (hne : k ≠ k2) : w (sid k2) = v (sid k2) := h.2 _ (fun i hi => ⟨by show 22 * k2 + 7 ≠ i + (22 * k + 9); omega, by show 22 * k2 + 7 ≠ i + (22 * k + 9) + 10; omega⟩)
theorem sid_inj {k k2 : Nat} (h : k ≠ k2) : sid k2 ≠ sid k := by show 22 * k2 + 7 ≠ 22 * k + 7; omega
set_option maxHeartbeats 4000000 in
set_option maxRecDepth 100000 in
theorem c_copy {Y : rcY} {la : Launch} {v : rcM} {k k2 : Nat} (hk : k < 6) (hk2 : k2 < 6) (hne : k ≠ k2) : rcT shC 139 Y la 2 (yX3_copy, cX3_copy, 3, none) [.ref (Y.2.1 (sid k)), .ref (Y.2.1 (sid k2))] (v) (fun r u => r = none ∧ Cpy v u k k2) := by
  refine rcT.of (by decide +kernel) (Nat.le_of_ble_eq_true rfl) (fun X F hn => ?_)
  have loop : ∀ r t : Nat, t ≤ 10 → 10 < t + r → ∀ w, CN v w k k2 (t) → rcJ shC 139 Y X (fun r u => r = none ∧ Cpy v u k k2) 2 [(2, .int (nI (t))), (0, .ref (Y.2.1 (sid k))), (1, .ref (Y.2.1 (sid k2)))] [] w := by
    intro r
    induction r with
    | zero => intro t ht hr; omega
    | succ r ih =>
      intro t ht hr
      intro w hw
      refine j_iload_n F.1 dX3_copy_2 rfl ?_
      refine j_bipush F.1 (10) dX3_copy_3 (by decide) ?_
      refine j_icmp_ge F.1 29 dX3_copy_5 (by decide) (fun h5 => ?_) (fun h5 => ?_)
      · have q5 : 10 ≤ t := (nI_leI (a := 10) (b := t) (by omega) (by omega)).mp h5
        have t10 : t = 10 := by omega
        subst t10
        refine j_aload_n F.1 dX3_copy_29 rfl ?_
        refine j_aload_n F.1 dX3_copy_30 rfl ?_
        refine j_geti F (k := 1) inX3 rfl (by decide) fl_X3_26 (sh_st hk2) rfl dX3_copy_31 ?_
        refine j_top (y := v (sid k2) 1) (by rw [CN_sid hw hne]) ?_
        refine j_puti F (k := 1) inX3 tyX3_ok nmX3 rfl (by decide) fl_X3_26 rfl rfl (sh_st hk) rfl dX3_copy_34 ?_
        refine j_aload_n F.1 dX3_copy_37 rfl ?_
        refine j_aload_n F.1 dX3_copy_38 rfl ?_
        refine j_geti F (k := 2) inX3 rfl (by decide) fl_X3_17 (sh_st hk2) rfl dX3_copy_39 ?_
        refine j_top (y := v (sid k2) 2) (by rw [rcu_ne (sid_inj hne)]; rw [CN_sid hw hne]) ?_
        refine j_puti F (k := 2) inX3 tyX3_ok nmX3 rfl (by decide) fl_X3_17 rfl rfl (sh_st hk) rfl dX3_copy_42 ?_
        refine j_aload_n F.1 dX3_copy_45 rfl ?_
        refine j_aload_n F.1 dX3_copy_46 rfl ?_
        refine j_geti F (k := 3) inX3 rfl (by decide) fl_X3_29 (sh_st hk2) rfl dX3_copy_47 ?_
        refine j_top (y := v (sid k2) 3) (by rw [rcu_ne (sid_inj hne)]; rw [rcu_ne (sid_inj hne)]; rw [CN_sid hw hne]) ?_
        refine j_puti F (k := 3) inX3 tyX3_ok nmX3 rfl (by decide) fl_X3_29 rfl rfl (sh_st hk) rfl dX3_copy_50 ?_
        refine j_aload_n F.1 dX3_copy_53 rfl ?_
        refine j_aload_n F.1 dX3_copy_54 rfl ?_
        refine j_geti F (k := 4) inX3 rfl (by decide) fl_X3_32 (sh_st hk2) rfl dX3_copy_55 ?_
        refine j_top (y := v (sid k2) 4) (by rw [rcu_ne (sid_inj hne)]; rw [rcu_ne (sid_inj hne)]; rw [rcu_ne (sid_inj hne)]; rw [CN_sid hw hne]) ?_
        refine j_puti F (k := 4) inX3 tyX3_ok nmX3 rfl (by decide) fl_X3_32 rfl rfl (sh_st hk) rfl dX3_copy_58 ?_
        refine j_aload_n F.1 dX3_copy_61 rfl ?_
        refine j_aload_n F.1 dX3_copy_62 rfl ?_
        refine j_geti F (k := 5) inX3 rfl (by decide) fl_X3_35 (sh_st hk2) rfl dX3_copy_63 ?_
        refine j_top (y := v (sid k2) 5) (by rw [rcu_ne (sid_inj hne)]; rw [rcu_ne (sid_inj hne)]; rw [rcu_ne (sid_inj hne)]; rw [rcu_ne (sid_inj hne)]; rw [CN_sid hw hne]) ?_
        refine j_puti F (k := 5) inX3 tyX3_ok nmX3 rfl (by decide) fl_X3_35 rfl rfl (sh_st hk) rfl dX3_copy_66 ?_
        refine j_aload_n F.1 dX3_copy_69 rfl ?_
        refine j_aload_n F.1 dX3_copy_70 rfl ?_
        refine j_geti F (k := 6) inX3 rfl (by decide) fl_X3_38 (sh_st hk2) rfl dX3_copy_71 ?_
        refine j_top (y := v (sid k2) 6) (by rw [rcu_ne (sid_inj hne)]; rw [rcu_ne (sid_inj hne)]; rw [rcu_ne (sid_inj hne)]; rw [rcu_ne (sid_inj hne)]; rw [rcu_ne (sid_inj hne)]; rw [CN_sid hw hne]) ?_
        refine j_puti F (k := 6) inX3 tyX3_ok nmX3 rfl (by decide) fl_X3_38 rfl rfl (sh_st hk) rfl dX3_copy_74 ?_
        refine j_aload_n F.1 dX3_copy_77 rfl ?_
        refine j_aload_n F.1 dX3_copy_78 rfl ?_
        refine j_geti F (k := 7) inX3 rfl (by decide) fl_X3_41 (sh_st hk2) rfl dX3_copy_79 ?_
        refine j_top (y := v (sid k2) 7) (by rw [rcu_ne (sid_inj hne)]; rw [rcu_ne (sid_inj hne)]; rw [rcu_ne (sid_inj hne)]; rw [rcu_ne (sid_inj hne)]; rw [rcu_ne (sid_inj hne)]; rw [rcu_ne (sid_inj hne)]; rw [CN_sid hw hne]) ?_
        refine j_puti F (k := 7) inX3 tyX3_ok nmX3 rfl (by decide) fl_X3_41 rfl rfl (sh_st hk) rfl dX3_copy_82 ?_
        refine j_aload_n F.1 dX3_copy_85 rfl ?_
        refine j_aload_n F.1 dX3_copy_86 rfl ?_
        refine j_geti F (k := 8) inX3 rfl (by decide) fl_X3_44 (sh_st hk2) rfl dX3_copy_87 ?_
        refine j_top (y := v (sid k2) 8) (by rw [rcu_ne (sid_inj hne)]; rw [rcu_ne (sid_inj hne)]; rw [rcu_ne (sid_inj hne)]; rw [rcu_ne (sid_inj hne)]; rw [rcu_ne (sid_inj hne)]; rw [rcu_ne (sid_inj hne)]; rw [rcu_ne (sid_inj hne)]; rw [CN_sid hw hne]) ?_
        refine j_puti F (k := 8) inX3 tyX3_ok nmX3 rfl (by decide) fl_X3_44 rfl rfl (sh_st hk) rfl dX3_copy_90 ?_
        refine j_aload_n F.1 dX3_copy_93 rfl ?_
        refine j_iconst F.1 (0) dX3_copy_94 (by decide) ?_
        refine j_puti F (k := 9) inX3 tyX3_ok nmX3 rfl (by decide) fl_X3_47 rfl rfl (sh_st hk) rfl dX3_copy_95 ?_
        exact j_vret F dX3_copy_98 ⟨rfl, CN_Cpy hw⟩
      · have q5 : t < 10 := Nat.lt_of_not_le (fun z => h5 ((nI_leI (a := 10) (b := t) (by omega) (by omega)).mpr z))
        refine j_aload_n F.1 dX3_copy_8 rfl ?_
        refine j_getr F (k := 0) inX3 rfl (by decide) fl_X3_11 (sh_st hk) rfl dX3_copy_9 ?_
        refine j_iload_n F.1 dX3_copy_12 rfl ?_
        refine j_aald3 F (sh_arr hk) rfl (by omega) (by decide) dX3_copy_13 ?_
        refine j_aload_n F.1 dX3_copy_14 rfl ?_
        refine j_getr F (k := 0) inX3 rfl (by decide) fl_X3_11 (sh_st hk2) rfl dX3_copy_15 ?_
        refine j_iload_n F.1 dX3_copy_18 rfl ?_
        refine j_aald3 F (sh_arr hk2) rfl (by omega) (by decide) dX3_copy_19 ?_
        refine j_callVv F (c_ccopy hk (by omega) hk2 (by omega) hne) co_X0_copy ml_X3_22 im_X0_copy se_X0_copy in_X0 rc_X0_copy rfl (by decide) (by decide) (sh_cell hk (by omega)) rfl rfl (Nat.le_of_ble_eq_true rfl) dX3_copy_20 ?_
        refine j_iinc F.1 (1) dX3_copy_23 (by decide) rfl (by rw [hn]; decide) ?_
        refine j_goto F.1 2 dX3_copy_26 (by decide) ?_
        refine j_loc [(2, .int (nI (t + 1))), (0, .ref (Y.2.1 (sid k))), (1, .ref (Y.2.1 (sid k2)))] (by rw [← nI_1]; rfl) ?_
        exact ih (t + 1) (by omega) (by omega) _ (CN_s hw (by omega) hne)
  refine j_iconst F.1 (0) dX3_copy_0 (by decide) ?_
  refine j_istore_n F.1 dX3_copy_1 (by rw [hn]; decide) ?_
  refine j_loc [(2, .int (nI (0))), (0, .ref (Y.2.1 (sid k))), (1, .ref (Y.2.1 (sid k2)))] rfl ?_
  exact loop 11 0 (by omega) (by omega) v CN_0
