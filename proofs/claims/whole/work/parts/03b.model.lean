/-! The reference: what is recorded, definitions, answers looked up. -/
abbrev rP (q : Int32 × rcM) : Option Value → rcM → Prop := rI q.1 q.2
/-- the history's row shifted by one state, as far as t -/
def sh4 (t : Nat) (p : Nat → Int32) : Nat → Int32 := fun k => if k < t then p (k + 158) else p k
/-- the state numbered m put into the history's row, as far as t -/
def put4 (t m : Nat) (b p : Nat → Int32) : Nat → Int32 := fun k => if 158 * m ≤ k ∧ k < 158 * m + t then b (k - 158 * m) else p k
theorem sh4_0 {p : Nat → Int32} : sh4 0 p = p := by funext k; simp [sh4]
theorem sh4_s {t : Nat} {p : Nat → Int32} : upd (sh4 t p) t (sh4 t p (t + 158)) = sh4 (t + 1) p := by
  funext k
  by_cases h : k = t
  · subst h; have q : ¬ k + 158 < k := by omega
    simp [sh4, upd, q]
  · by_cases h2 : k < t
    · simp [sh4, upd, h, h2, Nat.lt_succ_of_lt h2]
    · have h3 : ¬ k < t + 1 := by omega
      simp [sh4, upd, h, h2, h3]
theorem put4_0 {m : Nat} {b p : Nat → Int32} : put4 0 m b p = p := by
  funext k
  unfold put4
  rw [if_neg (by omega)]
theorem put4_s {t m : Nat} {b p : Nat → Int32} : upd (put4 t m b p) (158 * m + t) (b t) = put4 (t + 1) m b p := by
  funext k
  unfold upd put4
  by_cases h : k = 158 * m + t
  · subst h
    rw [if_pos rfl, if_pos ⟨by omega, by omega⟩]
    congr 1
    omega
  · rw [if_neg h]
    by_cases h2 : 158 * m ≤ k ∧ k < 158 * m + t
    · rw [if_pos h2, if_pos ⟨h2.1, by omega⟩]
    · rw [if_neg h2, if_neg (by omega)]
def M_act0 (v : rcM) : rcM := rcu (rcr v 3 (sh4 474 (v 3))) 0 3 (nI 3)
def M_act1 (n : Nat) (w : rcM) : rcM := rcu (rcr w 3 (put4 158 n (w 2) (w 3))) 0 3 (nI (n + 1))
def M_act (n : Nat) (v : rcM) : rcM := if n = 4 then M_act1 3 (M_act0 v) else M_act1 n v
def M_acted (n : Nat) (x : Int32) (v : rcM) : rcM := if x ≤ -2000000001 then v else M_act n v
set_option maxHeartbeats 4000000 in
set_option maxRecDepth 100000 in
theorem k_acted {Y : rcY} {la : Launch} {v : rcM} {x : Int32} {n : Nat} (hn4 : n ≤ 4) (hn3 : v 0 3 = nI n) : rcT shM 13 Y la 0 (yX6_acted, cX6_acted, 3, (some .int)) [.ref (Y.2.1 0), .int x] (v) (rI x (M_acted n x v)) := by
  refine rcT.of (by decide +kernel) (Nat.le_of_ble_eq_true rfl) (fun X F hn => ?_)
  have tail : ∀ (K : Option Value → rcM → Prop) (w : rcM) (m : Nat), m ≤ 3 → w 0 3 = nI m → K = rI x (M_act1 m w) → rcJ shM 13 Y X K 57 [(0, .ref (Y.2.1 0)), (1, .int x)] [] w := by
    intro K w m hm3 hm hK
    subst hK
    have loop : ∀ r t : Nat, t ≤ 158 → 158 < t + r → rcJ shM 13 Y X (rI x (M_act1 m w)) 59 [(0, .ref (Y.2.1 0)), (1, .int x), (2, .int (nI t))] [] (rcr w 3 (put4 t m (w 2) (w 3))) := by
      intro r
      induction r with
      | zero => intro t ht hr; omega
      | succ r ih =>
        intro t ht hr
        refine j_iload_n F.1 dX6_acted_59 rfl ?_
        refine j_sipush F.1 (158) dX6_acted_60 (by decide) ?_
        refine j_icmp_ge F.1 93 dX6_acted_63 (by decide) (fun h63 => ?_) (fun h63 => ?_)
        · have q63 : 158 ≤ t := (nI_leI (a := 158) (b := t) (by omega) (by omega)).mp h63
          refine j_aload_n F.1 dX6_acted_93 rfl ?_
          refine j_dup F.1 dX6_acted_94 rfl ?_
          refine j_geti F (k := 3) inX6 rfl (by decide) fl_X6_51 ⟨by decide, rfl⟩ rfl dX6_acted_95 ?_
          refine j_iconst F.1 (1) dX6_acted_98 (by decide) ?_
          refine j_iadd F.1 dX6_acted_99 ?_
          refine j_puti F (k := 3) inX6 tyX6_ok nmX6 rfl (by decide) fl_X6_51 rfl rfl ⟨by decide, rfl⟩ rfl dX6_acted_100 ?_
          refine j_iload_n F.1 dX6_acted_103 rfl ?_
          exact j_iret F dX6_acted_104 ((rIe rfl (by rw [Nat.le_antisymm ht q63]; show rcu _ 0 3 (rcr w 3 _ 0 3 + 1) = _; rw [rcr_n (a := 3) (b := 0) (by decide), hm, nI_1]; rfl)))
        · have q63 : t < 158 := Nat.lt_of_not_le (fun z => h63 ((nI_leI (a := 158) (b := t) (by omega) (by omega)).mpr z))
          refine j_aload_n F.1 dX6_acted_66 rfl ?_
          refine j_getr F (k := 2) inX6 rfl (by decide) fl_X6_16 ⟨by decide, rfl⟩ rfl dX6_acted_67 ?_
          refine j_sipush F.1 (158) dX6_acted_70 (by decide) ?_
          refine j_aload_n F.1 dX6_acted_73 rfl ?_
          refine j_geti F (k := 3) inX6 rfl (by decide) fl_X6_51 ⟨by decide, rfl⟩ rfl dX6_acted_74 ?_
          refine j_imul F.1 dX6_acted_77 ?_
          refine j_iload_n F.1 dX6_acted_78 rfl ?_
          refine j_iadd F.1 dX6_acted_79 ?_
          refine j_aload_n F.1 dX6_acted_80 rfl ?_
          refine j_getr F (k := 1) inX6 rfl (by decide) fl_X6_13 ⟨by decide, rfl⟩ rfl dX6_acted_81 ?_
          refine j_iload_n F.1 dX6_acted_84 rfl ?_
          refine j_iald F ⟨by decide, rfl⟩ rfl (by omega) (by decide) dX6_acted_85 ?_
          refine j_iast F ⟨by decide, rfl⟩ (by rw [show (158 : Int32) = nI 158 from rfl, rcr_n (b := 0) (a := 3) (by decide), hm, pk_mul, nI_add]) (by omega) (by decide) dX6_acted_86 ?_
          refine j_iinc F.1 (1) dX6_acted_87 (by decide) rfl (by rw [hn]; decide) ?_
          refine j_goto F.1 59 dX6_acted_90 (by decide) ?_
          refine j_loc [(0, .ref (Y.2.1 0)), (1, .int x), (2, .int (nI (t + 1)))] (by rw [← nI_1]; rfl) ?_
          rw [rcu_r, rcr_rcr, rcr_s, rcr_n (a := 3) (b := 2) (by decide), put4_s]
          exact ih (t + 1) (by omega) (by omega)
    refine j_iconst F.1 (0) dX6_acted_57 (by decide) ?_
    refine j_istore_n F.1 dX6_acted_58 (by rw [hn]; decide) ?_
    refine j_loc [(0, .ref (Y.2.1 0)), (1, .int x), (2, .int (nI 0))] rfl ?_
    have e := loop 159 0 (by omega) (by omega)
    rw [put4_0, rcr_self] at e
    exact e
  have loop : ∀ r t : Nat, t ≤ 474 → 474 < t + r → v 0 3 = nI 4 → rcJ shM 13 Y X (rI x (M_act1 3 (M_act0 v))) 18 [(0, .ref (Y.2.1 0)), (1, .int x), (2, .int (nI t))] [] (rcr v 3 (sh4 t (v 3))) := by
    intro r
    induction r with
    | zero => intro t ht hr; omega
    | succ r ih =>
      intro t ht hr h4
      refine j_iload_n F.1 dX6_acted_18 rfl ?_
      refine j_sipush F.1 (474) dX6_acted_19 (by decide) ?_
      refine j_icmp_ge F.1 47 dX6_acted_22 (by decide) (fun h22 => ?_) (fun h22 => ?_)
      · have q22 : 474 ≤ t := (nI_leI (a := 474) (b := t) (by omega) (by omega)).mp h22
        refine j_aload_n F.1 dX6_acted_47 rfl ?_
        refine j_dup F.1 dX6_acted_48 rfl ?_
        refine j_geti F (k := 3) inX6 rfl (by decide) fl_X6_51 ⟨by decide, rfl⟩ rfl dX6_acted_49 ?_
        refine j_iconst F.1 (1) dX6_acted_52 (by decide) ?_
        refine j_isub F.1 dX6_acted_53 ?_
        refine j_puti F (k := 3) inX6 tyX6_ok nmX6 rfl (by decide) fl_X6_51 rfl rfl ⟨by decide, rfl⟩ rfl dX6_acted_54 ?_
        refine j_loc [(0, .ref (Y.2.1 0)), (1, .int x)] rfl ?_
        refine tail _ _ 3 (by omega) ?_ ?_
        · rw [rcu_self, rcr_n (a := 3) (b := 0) (by decide), h4]; decide
        · rw [Nat.le_antisymm ht q22, rcr_n (a := 3) (b := 0) (by decide), h4]; rfl
      · have q22 : t < 474 := Nat.lt_of_not_le (fun z => h22 ((nI_leI (a := 474) (b := t) (by omega) (by omega)).mpr z))
        refine j_aload_n F.1 dX6_acted_25 rfl ?_
        refine j_getr F (k := 2) inX6 rfl (by decide) fl_X6_16 ⟨by decide, rfl⟩ rfl dX6_acted_26 ?_
        refine j_iload_n F.1 dX6_acted_29 rfl ?_
        refine j_aload_n F.1 dX6_acted_30 rfl ?_
        refine j_getr F (k := 2) inX6 rfl (by decide) fl_X6_16 ⟨by decide, rfl⟩ rfl dX6_acted_31 ?_
        refine j_iload_n F.1 dX6_acted_34 rfl ?_
        refine j_sipush F.1 (158) dX6_acted_35 (by decide) ?_
        refine j_iadd F.1 dX6_acted_38 ?_
        refine j_iald F ⟨by decide, rfl⟩ (by rw [show (158 : Int32) = nI 158 from rfl, nI_add]) (by omega) (by decide) dX6_acted_39 ?_
        refine j_iast F ⟨by decide, rfl⟩ rfl (by omega) (by decide) dX6_acted_40 ?_
        refine j_iinc F.1 (1) dX6_acted_41 (by decide) rfl (by rw [hn]; decide) ?_
        refine j_goto F.1 18 dX6_acted_44 (by decide) ?_
        refine j_loc [(0, .ref (Y.2.1 0)), (1, .int x), (2, .int (nI (t + 1)))] (by rw [← nI_1]; rfl) ?_
        rw [rcu_r, rcr_rcr, rcr_s, sh4_s]
        exact ih (t + 1) (by omega) (by omega) h4
  refine j_iload_n F.1 dX6_acted_0 rfl ?_
  refine j_ldc F cn_X6_50 dX6_acted_1 ?_
  refine j_icmp_gt F.1 8 dX6_acted_3 (by decide) (fun h3 => ?_) (fun h3 => ?_)
  · have h3n : ¬ x ≤ -2000000001 := Int32.not_le.mpr h3
    refine j_aload_n F.1 dX6_acted_8 rfl ?_
    refine j_geti F (k := 3) inX6 rfl (by decide) fl_X6_51 ⟨by decide, rfl⟩ rfl dX6_acted_9 ?_
    refine j_iconst F.1 (4) dX6_acted_12 (by decide) ?_
    refine j_icmp_ne F.1 57 dX6_acted_13 (by decide) (fun h13 => ?_) (fun h13 => ?_)
    · have n4 : ¬ n = 4 := fun z => h13 (by rw [hn3, z]; rfl)
      unfold M_acted M_act
      rw [if_neg h3n, if_neg n4]
      exact tail _ v n (by omega) hn3 rfl
    · have n4 : n = 4 := (nI_eq (by omega) (by decide)).mp (hn3.symm.trans h13)
      have h4 : v 0 3 = nI 4 := h13
      refine j_iconst F.1 (0) dX6_acted_16 (by decide) ?_
      refine j_istore_n F.1 dX6_acted_17 (by rw [hn]; decide) ?_
      refine j_loc [(0, .ref (Y.2.1 0)), (1, .int x), (2, .int (nI 0))] rfl ?_
      have e := loop 475 0 (by omega) (by omega) h4
      rw [sh4_0, rcr_self] at e
      unfold M_acted M_act
      rw [if_neg h3n, if_pos n4]
      exact e
  · have h3 := Int32.not_lt.mp h3
    refine j_iload_n F.1 dX6_acted_6 rfl ?_
    exact j_iret F dX6_acted_7 ((rIe rfl (if_pos h3).symm))
set_option maxHeartbeats 4000000 in
set_option maxRecDepth 100000 in
theorem k_isSo {Y : rcY} {la : Launch} {v : rcM} {i : Nat} {a b c d e : Int32} (hi : i < 10) : rcT shM 13 Y la 1 (yX6_isSo, cX6_isSo, 7, (some .boolean)) [.ref (Y.2.1 0), .int (nI i), .int a, .int b, .int c, .int d, .int e] (v) (rI (b2 (v 1 (ix i 0) = a ∧ v 1 (ix i 1) = b ∧ v 1 (ix i 2) = c ∧ v 1 (ix i 3) = d ∧ v 1 (ix i 4) = e)) v) := by
  refine rcT.of (by decide +kernel) (Nat.le_of_ble_eq_true rfl) (fun X F hn => ?_)
  refine j_aload_n F.1 dX6_isSo_0 rfl ?_
  refine j_iload_n F.1 dX6_isSo_1 rfl ?_
  refine j_iconst F.1 (0) dX6_isSo_2 (by decide) ?_
  refine j_callVi F (k_of (by assumption) (by decide)) co_X6_of ml_X6_55 im_X6_of se_X6_of in_X6 rc_X6_of rfl (by decide) (by decide) ⟨by decide, rfl⟩ rfl rfl (Nat.le_of_ble_eq_true rfl) dX6_isSo_3 ?_
  refine j_iload_n F.1 dX6_isSo_6 rfl ?_
  refine j_icmp_ne F.1 57 dX6_isSo_7 (by decide) (fun h7 => ?_) (fun h7 => ?_)
  · refine j_iconst F.1 (0) dX6_isSo_57 (by decide) ?_
    exact j_zret F (by first | exact Or.inl rfl | exact Or.inr rfl | exact b2_01 _) dX6_isSo_58 ((rIe (by simp [b2, *]) rfl))
  · refine j_aload_n F.1 dX6_isSo_10 rfl ?_
    refine j_iload_n F.1 dX6_isSo_11 rfl ?_
    refine j_iconst F.1 (1) dX6_isSo_12 (by decide) ?_
    refine j_callVi F (k_of (by assumption) (by decide)) co_X6_of ml_X6_55 im_X6_of se_X6_of in_X6 rc_X6_of rfl (by decide) (by decide) ⟨by decide, rfl⟩ rfl rfl (Nat.le_of_ble_eq_true rfl) dX6_isSo_13 ?_
    refine j_iload_n F.1 dX6_isSo_16 rfl ?_
    refine j_icmp_ne F.1 57 dX6_isSo_17 (by decide) (fun h17 => ?_) (fun h17 => ?_)
    · refine j_iconst F.1 (0) dX6_isSo_57 (by decide) ?_
      exact j_zret F (by first | exact Or.inl rfl | exact Or.inr rfl | exact b2_01 _) dX6_isSo_58 ((rIe (by simp [b2, *]) rfl))
    · refine j_aload_n F.1 dX6_isSo_20 rfl ?_
      refine j_iload_n F.1 dX6_isSo_21 rfl ?_
      refine j_iconst F.1 (2) dX6_isSo_22 (by decide) ?_
      refine j_callVi F (k_of (by assumption) (by decide)) co_X6_of ml_X6_55 im_X6_of se_X6_of in_X6 rc_X6_of rfl (by decide) (by decide) ⟨by decide, rfl⟩ rfl rfl (Nat.le_of_ble_eq_true rfl) dX6_isSo_23 ?_
      refine j_iload F.1 dX6_isSo_26 rfl ?_
      refine j_icmp_ne F.1 57 dX6_isSo_28 (by decide) (fun h28 => ?_) (fun h28 => ?_)
      · refine j_iconst F.1 (0) dX6_isSo_57 (by decide) ?_
        exact j_zret F (by first | exact Or.inl rfl | exact Or.inr rfl | exact b2_01 _) dX6_isSo_58 ((rIe (by simp [b2, *]) rfl))
      · refine j_aload_n F.1 dX6_isSo_31 rfl ?_
        refine j_iload_n F.1 dX6_isSo_32 rfl ?_
        refine j_iconst F.1 (3) dX6_isSo_33 (by decide) ?_
        refine j_callVi F (k_of (by assumption) (by decide)) co_X6_of ml_X6_55 im_X6_of se_X6_of in_X6 rc_X6_of rfl (by decide) (by decide) ⟨by decide, rfl⟩ rfl rfl (Nat.le_of_ble_eq_true rfl) dX6_isSo_34 ?_
        refine j_iload F.1 dX6_isSo_37 rfl ?_
        refine j_icmp_ne F.1 57 dX6_isSo_39 (by decide) (fun h39 => ?_) (fun h39 => ?_)
        · refine j_iconst F.1 (0) dX6_isSo_57 (by decide) ?_
          exact j_zret F (by first | exact Or.inl rfl | exact Or.inr rfl | exact b2_01 _) dX6_isSo_58 ((rIe (by simp [b2, *]) rfl))
        · refine j_aload_n F.1 dX6_isSo_42 rfl ?_
          refine j_iload_n F.1 dX6_isSo_43 rfl ?_
          refine j_iconst F.1 (4) dX6_isSo_44 (by decide) ?_
          refine j_callVi F (k_of (by assumption) (by decide)) co_X6_of ml_X6_55 im_X6_of se_X6_of in_X6 rc_X6_of rfl (by decide) (by decide) ⟨by decide, rfl⟩ rfl rfl (Nat.le_of_ble_eq_true rfl) dX6_isSo_45 ?_
          refine j_iload F.1 dX6_isSo_48 rfl ?_
          refine j_icmp_ne F.1 57 dX6_isSo_50 (by decide) (fun h50 => ?_) (fun h50 => ?_)
          · refine j_iconst F.1 (0) dX6_isSo_57 (by decide) ?_
            exact j_zret F (by first | exact Or.inl rfl | exact Or.inr rfl | exact b2_01 _) dX6_isSo_58 ((rIe (by simp [b2, *]) rfl))
          · refine j_iconst F.1 (1) dX6_isSo_53 (by decide) ?_
            refine j_goto F.1 58 dX6_isSo_54 (by decide) ?_
            exact j_zret F (by first | exact Or.inl rfl | exact Or.inr rfl | exact b2_01 _) dX6_isSo_58 ((rIe (by simp [b2, *]) rfl))
/-- fifteen places of a cell are laid to 0, as far as n -/
def zr (n i : Nat) (f : Nat → Int32) : Nat → Int32 := fun k => if ix i 0 ≤ k ∧ k < ix i n then 0 else f k
theorem zr_0 {i : Nat} {f : Nat → Int32} : zr 0 i f = f := by
  funext k
  unfold zr
  rw [if_neg (by omega)]
theorem zr_s {n i : Nat} {f : Nat → Int32} : upd (zr n i f) (ix i n) 0 = zr (n + 1) i f := by
  funext k
  unfold upd zr ix
  by_cases h : k = 8 + 15 * i + n
  · rw [if_pos h, if_pos (by omega)]
  · rw [if_neg h]
    by_cases h2 : 8 + 15 * i + 0 ≤ k ∧ k < 8 + 15 * i + n
    · rw [if_pos h2, if_pos (by omega)]
    · rw [if_neg h2, if_neg (by omega)]
/-- a cell is laid down as something else -/
def A_def1 (f : Nat → Int32) (i : Nat) (a b c d e : Int32) : Nat → Int32 :=
  upd (upd (upd (upd (upd (upd (zr 15 i (upd f 0 (f 0 + 1))) (ix i 0) a) (ix i 1) b) (ix i 2) c) (ix i 3) d) (ix i 4) e) (ix i 5) (f 0 + 1)
def A_so (f : Nat → Int32) (i : Nat) (a b c d e : Int32) : Prop := f (ix i 0) = a ∧ f (ix i 1) = b ∧ f (ix i 2) = c ∧ f (ix i 3) = d ∧ f (ix i 4) = e
def A_def (f : Nat → Int32) (i : Nat) (a b c d e : Int32) : Nat → Int32 := if f (ix i 0) = a ∧ f (ix i 1) = b ∧ f (ix i 2) = c ∧ f (ix i 3) = d ∧ f (ix i 4) = e then f else A_def1 f i a b c d e
set_option maxHeartbeats 4000000 in
set_option maxRecDepth 100000 in
theorem k_defines {Y : rcY} {la : Launch} {v : rcM} {i : Nat} {a b c d e : Int32} (hi : i < 10) : rcT shM 13 Y la 2 (yX6_defines, cX6_defines, 8, (some .int)) [.ref (Y.2.1 0), .int (nI i), .int a, .int b, .int c, .int d, .int e] (v) (rI (A_def (v 1) i a b c d e 0) (rcr v 1 (A_def (v 1) i a b c d e))) := by
  refine rcT.of (by decide +kernel) (Nat.le_of_ble_eq_true rfl) (fun X F hn => ?_)
  have last : ∀ w : rcM, w = rcr v 1 (A_def (v 1) i a b c d e) → rcJ shM 13 Y X (rI (A_def (v 1) i a b c d e 0) (rcr v 1 (A_def (v 1) i a b c d e))) 100 [(0, .ref (Y.2.1 0)), (1, .int (nI i)), (2, .int a), (3, .int b), (4, .int c), (5, .int d), (6, .int e)] [] w := by
    intro w hw
    subst hw
    refine j_aload_n F.1 dX6_defines_100 rfl ?_
    refine j_getr F (k := 0) inX6 rfl (by decide) fl_X6_7 ⟨by decide, rfl⟩ rfl dX6_defines_101 ?_
    refine j_iconst F.1 (0) dX6_defines_104 (by decide) ?_
    refine j_iald F ⟨by decide, rfl⟩ rfl (by decide) (by decide) dX6_defines_105 ?_
    exact j_iret F dX6_defines_106 ((rIe (by rw [rcr_s]) rfl))
  have loop : ∀ r t : Nat, t ≤ 15 → 15 < t + r → ¬ (v 1 (ix i 0) = a ∧ v 1 (ix i 1) = b ∧ v 1 (ix i 2) = c ∧ v 1 (ix i 3) = d ∧ v 1 (ix i 4) = e) → rcJ shM 13 Y X (rI (A_def (v 1) i a b c d e 0) (rcr v 1 (A_def (v 1) i a b c d e))) 29 [(7, .int (nI t)), (0, .ref (Y.2.1 0)), (1, .int (nI i)), (2, .int a), (3, .int b), (4, .int c), (5, .int d), (6, .int e)] [] (rcr v 1 (zr t i (upd (v 1) 0 (v 1 0 + 1)))) := by
    intro r
    induction r with
    | zero => intro t ht hr; omega
    | succ r ih =>
      intro t ht hr hso
      refine j_iload F.1 dX6_defines_29 rfl ?_
      refine j_bipush F.1 (15) dX6_defines_31 (by decide) ?_
      refine j_icmp_ge F.1 50 dX6_defines_33 (by decide) (fun h33 => ?_) (fun h33 => ?_)
      · have q33 : 15 ≤ t := (nI_leI (a := 15) (b := t) (by omega) (by omega)).mp h33
        refine j_aload_n F.1 dX6_defines_50 rfl ?_
        refine j_iload_n F.1 dX6_defines_51 rfl ?_
        refine j_iconst F.1 (0) dX6_defines_52 (by decide) ?_
        refine j_iload_n F.1 dX6_defines_53 rfl ?_
        refine j_callVv F (k_puts (by assumption) (by decide)) co_X6_puts ml_X6_63 im_X6_puts se_X6_puts in_X6 rc_X6_puts rfl (by decide) (by decide) ⟨by decide, rfl⟩ rfl rfl (Nat.le_of_ble_eq_true rfl) dX6_defines_54 ?_
        rw [rcr_rcr, rcr_s]
        refine j_aload_n F.1 dX6_defines_57 rfl ?_
        refine j_iload_n F.1 dX6_defines_58 rfl ?_
        refine j_iconst F.1 (1) dX6_defines_59 (by decide) ?_
        refine j_iload_n F.1 dX6_defines_60 rfl ?_
        refine j_callVv F (k_puts (by assumption) (by decide)) co_X6_puts ml_X6_63 im_X6_puts se_X6_puts in_X6 rc_X6_puts rfl (by decide) (by decide) ⟨by decide, rfl⟩ rfl rfl (Nat.le_of_ble_eq_true rfl) dX6_defines_61 ?_
        rw [rcr_rcr, rcr_s]
        refine j_aload_n F.1 dX6_defines_64 rfl ?_
        refine j_iload_n F.1 dX6_defines_65 rfl ?_
        refine j_iconst F.1 (2) dX6_defines_66 (by decide) ?_
        refine j_iload F.1 dX6_defines_67 rfl ?_
        refine j_callVv F (k_puts (by assumption) (by decide)) co_X6_puts ml_X6_63 im_X6_puts se_X6_puts in_X6 rc_X6_puts rfl (by decide) (by decide) ⟨by decide, rfl⟩ rfl rfl (Nat.le_of_ble_eq_true rfl) dX6_defines_69 ?_
        rw [rcr_rcr, rcr_s]
        refine j_aload_n F.1 dX6_defines_72 rfl ?_
        refine j_iload_n F.1 dX6_defines_73 rfl ?_
        refine j_iconst F.1 (3) dX6_defines_74 (by decide) ?_
        refine j_iload F.1 dX6_defines_75 rfl ?_
        refine j_callVv F (k_puts (by assumption) (by decide)) co_X6_puts ml_X6_63 im_X6_puts se_X6_puts in_X6 rc_X6_puts rfl (by decide) (by decide) ⟨by decide, rfl⟩ rfl rfl (Nat.le_of_ble_eq_true rfl) dX6_defines_77 ?_
        rw [rcr_rcr, rcr_s]
        refine j_aload_n F.1 dX6_defines_80 rfl ?_
        refine j_iload_n F.1 dX6_defines_81 rfl ?_
        refine j_iconst F.1 (4) dX6_defines_82 (by decide) ?_
        refine j_iload F.1 dX6_defines_83 rfl ?_
        refine j_callVv F (k_puts (by assumption) (by decide)) co_X6_puts ml_X6_63 im_X6_puts se_X6_puts in_X6 rc_X6_puts rfl (by decide) (by decide) ⟨by decide, rfl⟩ rfl rfl (Nat.le_of_ble_eq_true rfl) dX6_defines_85 ?_
        rw [rcr_rcr, rcr_s]
        refine j_aload_n F.1 dX6_defines_88 rfl ?_
        refine j_iload_n F.1 dX6_defines_89 rfl ?_
        refine j_iconst F.1 (5) dX6_defines_90 (by decide) ?_
        refine j_aload_n F.1 dX6_defines_91 rfl ?_
        refine j_getr F (k := 0) inX6 rfl (by decide) fl_X6_7 ⟨by decide, rfl⟩ rfl dX6_defines_92 ?_
        refine j_iconst F.1 (0) dX6_defines_95 (by decide) ?_
        refine j_iald F ⟨by decide, rfl⟩ rfl (by decide) (by decide) dX6_defines_96 ?_
        refine j_callVv F (k_puts (by assumption) (by decide)) co_X6_puts ml_X6_63 im_X6_puts se_X6_puts in_X6 rc_X6_puts rfl (by decide) (by decide) ⟨by decide, rfl⟩ rfl rfl (Nat.le_of_ble_eq_true rfl) dX6_defines_97 ?_
        rw [rcr_rcr, rcr_s]
        refine j_loc [(0, .ref (Y.2.1 0)), (1, .int (nI i)), (2, .int a), (3, .int b), (4, .int c), (5, .int d), (6, .int e)] rfl ?_
        refine last _ ?_
        rw [Nat.le_antisymm ht q33]
        unfold A_def
        rw [if_neg hso]
        unfold A_def1
        have z0 : zr 15 i (upd (v 1) 0 (v 1 0 + 1)) 0 = v 1 0 + 1 := by
          unfold zr ix
          rw [if_neg (by omega)]
          simp [upd]
        simp only [rcr_s, rcr_rcr]
        refine congrArg (fun z => rcr v 1 (upd _ (ix i 5) z)) ?_
        repeat rw [pk_un (by unfold ix; omega)]
        exact z0
      · have q33 : t < 15 := Nat.lt_of_not_le (fun z => h33 ((nI_leI (a := 15) (b := t) (by omega) (by omega)).mpr z))
        refine j_aload_n F.1 dX6_defines_36 rfl ?_
        refine j_iload_n F.1 dX6_defines_37 rfl ?_
        refine j_iload F.1 dX6_defines_38 rfl ?_
        refine j_iconst F.1 (0) dX6_defines_40 (by decide) ?_
        refine j_callVv F (k_puts (by assumption) (by omega)) co_X6_puts ml_X6_63 im_X6_puts se_X6_puts in_X6 rc_X6_puts rfl (by decide) (by decide) ⟨by decide, rfl⟩ rfl rfl (Nat.le_of_ble_eq_true rfl) dX6_defines_41 ?_
        rw [rcr_rcr, rcr_s]
        refine j_iinc F.1 (1) dX6_defines_44 (by decide) rfl (by rw [hn]; decide) ?_
        refine j_goto F.1 29 dX6_defines_47 (by decide) ?_
        refine j_loc [(7, .int (nI (t + 1))), (0, .ref (Y.2.1 0)), (1, .int (nI i)), (2, .int a), (3, .int b), (4, .int c), (5, .int d), (6, .int e)] (by rw [← nI_1]; rfl) ?_
        rw [zr_s]
        exact ih (t + 1) (by omega) (by omega) hso
  refine j_aload_n F.1 dX6_defines_0 rfl ?_
  refine j_iload_n F.1 dX6_defines_1 rfl ?_
  refine j_iload_n F.1 dX6_defines_2 rfl ?_
  refine j_iload_n F.1 dX6_defines_3 rfl ?_
  refine j_iload F.1 dX6_defines_4 rfl ?_
  refine j_iload F.1 dX6_defines_6 rfl ?_
  refine j_iload F.1 dX6_defines_8 rfl ?_
  refine j_callVi F (k_isSo (by assumption)) co_X6_isSo ml_X6_59 im_X6_isSo se_X6_isSo in_X6 rc_X6_isSo rfl (by decide) (by decide) ⟨by decide, rfl⟩ rfl rfl (Nat.le_of_ble_eq_true rfl) dX6_defines_10 ?_
  refine j_if_ne F.1 100 dX6_defines_13 (by decide) (fun h13 => ?_) (fun h13 => ?_)
  · rw [b2_0, Classical.not_not] at h13
    exact last v (by unfold A_def; rw [if_pos h13, rcr_self])
  · rw [b2_0] at h13
    refine j_aload_n F.1 dX6_defines_16 rfl ?_
    refine j_getr F (k := 0) inX6 rfl (by decide) fl_X6_7 ⟨by decide, rfl⟩ rfl dX6_defines_17 ?_
    refine j_iconst F.1 (0) dX6_defines_20 (by decide) ?_
    refine j_dup2 F.1 dX6_defines_21 rfl rfl ?_
    refine j_iald F ⟨by decide, rfl⟩ rfl (by decide) (by decide) dX6_defines_22 ?_
    refine j_iconst F.1 (1) dX6_defines_23 (by decide) ?_
    refine j_iadd F.1 dX6_defines_24 ?_
    refine j_iast F ⟨by decide, rfl⟩ rfl (by decide) (by decide) dX6_defines_25 ?_
    refine j_iconst F.1 (0) dX6_defines_26 (by decide) ?_
    refine j_istore F.1 dX6_defines_27 (by rw [hn]; decide) ?_
    refine j_loc [(7, .int (nI 0)), (0, .ref (Y.2.1 0)), (1, .int (nI i)), (2, .int a), (3, .int b), (4, .int c), (5, .int d), (6, .int e)] rfl ?_
    have e1 := loop 16 0 (by omega) (by omega) h13
    rw [zr_0] at e1
    rw [rcu_r]
    exact e1
