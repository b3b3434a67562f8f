/-! The reference: its small methods, each tied to a function of its rows. -/
def ix (i w : Nat) : Nat := 8 + 15 * i + w
theorem rIe {x y : Int32} {u w : rcM} (h1 : x = y) (h2 : u = w) : rI y w (some (.int x)) u := ⟨by rw [h1], h2⟩
theorem rVe {u w : rcM} (h2 : u = w) : rV w none u := ⟨rfl, h2⟩
theorem ix_e (i j : Nat) : (8 : Int32) + 15 * nI i + nI j = nI (ix i j) := by
  show nI 8 + nI 15 * nI i + nI j = _
  rw [pk_mul, nI_add, nI_add]
  rfl
theorem in_t {x a b : Int32} (h1 : ¬ x < a) (h2 : ¬ b < x) : 1 = b2 (a ≤ x ∧ x ≤ b) := (b2_t ⟨Int32.not_lt.mp h1, Int32.not_lt.mp h2⟩).symm
theorem in_f1 {x a b : Int32} (h1 : x < a) : 0 = b2 (a ≤ x ∧ x ≤ b) := (b2_f (fun h => Int32.not_lt.mpr h.1 h1)).symm
theorem in_f2 {x a b : Int32} (h1 : b < x) : 0 = b2 (a ≤ x ∧ x ≤ b) := (b2_f (fun h => Int32.not_lt.mpr h.2 h1)).symm
/-- the first n places of f, the others of g -/
def cp (n : Nat) (f g : Nat → Int32) : Nat → Int32 := fun k => if k < n then f k else g k
theorem cp_0 {f g : Nat → Int32} : cp 0 f g = g := by funext k; simp [cp]
theorem cp_s {n : Nat} {f g : Nat → Int32} : upd (cp n f g) n (f n) = cp (n + 1) f g := by
  funext k
  by_cases h : k = n
  · subst h; simp [cp, upd]
  · by_cases h2 : k < n
    · simp [cp, upd, h, h2, Nat.lt_succ_of_lt h2]
    · have h3 : ¬ k < n + 1 := by omega
      simp [cp, upd, h, h2, h3]
set_option maxHeartbeats 4000000 in
set_option maxRecDepth 100000 in
theorem k_in {Y : rcY} {la : Launch} {v : rcM} {x a b : Int32} : rcT shM 13 Y la 0 (yX6_in, cX6_in, 3, (some .boolean)) [.int x, .int a, .int b] (v) (rI (b2 (a ≤ x ∧ x ≤ b)) v) := by
  refine rcT.of (by decide +kernel) (Nat.le_of_ble_eq_true rfl) (fun X F hn => ?_)
  refine j_iload_n F.1 dX6_in_0 rfl ?_
  refine j_iload_n F.1 dX6_in_1 rfl ?_
  refine j_icmp_lt F.1 14 dX6_in_2 (by decide) (fun h2 => ?_) (fun h2 => ?_)
  · refine j_iconst F.1 (0) dX6_in_14 (by decide) ?_
    exact j_zret F (by first | exact Or.inl rfl | exact Or.inr rfl | exact b2_01 _) dX6_in_15 ((rIe (by first | exact in_t ‹_› ‹_› | exact in_f1 ‹_› | exact in_f2 ‹_›) rfl))
  · refine j_iload_n F.1 dX6_in_5 rfl ?_
    refine j_iload_n F.1 dX6_in_6 rfl ?_
    refine j_icmp_gt F.1 14 dX6_in_7 (by decide) (fun h7 => ?_) (fun h7 => ?_)
    · refine j_iconst F.1 (0) dX6_in_14 (by decide) ?_
      exact j_zret F (by first | exact Or.inl rfl | exact Or.inr rfl | exact b2_01 _) dX6_in_15 ((rIe (by first | exact in_t ‹_› ‹_› | exact in_f1 ‹_› | exact in_f2 ‹_›) rfl))
    · refine j_iconst F.1 (1) dX6_in_10 (by decide) ?_
      refine j_goto F.1 15 dX6_in_11 (by decide) ?_
      exact j_zret F (by first | exact Or.inl rfl | exact Or.inr rfl | exact b2_01 _) dX6_in_15 ((rIe (by first | exact in_t ‹_› ‹_› | exact in_f1 ‹_› | exact in_f2 ‹_›) rfl))
set_option maxHeartbeats 4000000 in
set_option maxRecDepth 100000 in
theorem k_isCell {Y : rcY} {la : Launch} {v : rcM} {x : Int32} : rcT shM 13 Y la 1 (yX6_isCell, cX6_isCell, 1, (some .boolean)) [.int x] (v) (rI (b2 (0 ≤ x ∧ x ≤ 9)) v) := by
  refine rcT.of (by decide +kernel) (Nat.le_of_ble_eq_true rfl) (fun X F hn => ?_)
  refine j_iload_n F.1 dX6_isCell_0 rfl ?_
  refine j_iconst F.1 (0) dX6_isCell_1 (by decide) ?_
  refine j_bipush F.1 (9) dX6_isCell_2 (by decide) ?_
  refine j_callSi F (k_in) co_X6_in ml_X6_46 st_X6_in in_X6 rc_X6_in rfl (by decide) (by decide) rfl (Nat.le_of_ble_eq_true rfl) dX6_isCell_4 ?_
  exact j_zret F (by first | exact Or.inl rfl | exact Or.inr rfl | exact b2_01 _) dX6_isCell_7 ⟨rfl, rfl⟩
set_option maxHeartbeats 4000000 in
set_option maxRecDepth 100000 in
theorem k_isValue {Y : rcY} {la : Launch} {v : rcM} {x : Int32} : rcT shM 13 Y la 1 (yX6_isValue, cX6_isValue, 1, (some .boolean)) [.int x] (v) (rI (b2 (-99999 ≤ x ∧ x ≤ 99999)) v) := by
  refine rcT.of (by decide +kernel) (Nat.le_of_ble_eq_true rfl) (fun X F hn => ?_)
  refine j_iload_n F.1 dX6_isValue_0 rfl ?_
  refine j_ldc F cn_X6_67 dX6_isValue_1 ?_
  refine j_ldc F cn_X6_68 dX6_isValue_3 ?_
  refine j_callSi F (k_in) co_X6_in ml_X6_46 st_X6_in in_X6 rc_X6_in rfl (by decide) (by decide) rfl (Nat.le_of_ble_eq_true rfl) dX6_isValue_5 ?_
  exact j_zret F (by first | exact Or.inl rfl | exact Or.inr rfl | exact b2_01 _) dX6_isValue_8 ⟨rfl, rfl⟩
set_option maxHeartbeats 4000000 in
set_option maxRecDepth 100000 in
theorem k_of {Y : rcY} {la : Launch} {v : rcM} {i j : Nat} (hi : i < 10) (hj : j < 15) : rcT shM 13 Y la 0 (yX6_of, cX6_of, 3, (some .int)) [.ref (Y.2.1 0), .int (nI i), .int (nI j)] (v) (rI (v 1 (ix i j)) v) := by
  refine rcT.of (by decide +kernel) (Nat.le_of_ble_eq_true rfl) (fun X F hn => ?_)
  refine j_aload_n F.1 dX6_of_0 rfl ?_
  refine j_getr F (k := 0) inX6 rfl (by decide) fl_X6_7 ⟨by decide, rfl⟩ rfl dX6_of_1 ?_
  refine j_bipush F.1 (8) dX6_of_4 (by decide) ?_
  refine j_bipush F.1 (15) dX6_of_6 (by decide) ?_
  refine j_iload_n F.1 dX6_of_8 rfl ?_
  refine j_imul F.1 dX6_of_9 ?_
  refine j_iadd F.1 dX6_of_10 ?_
  refine j_iload_n F.1 dX6_of_11 rfl ?_
  refine j_iadd F.1 dX6_of_12 ?_
  refine j_iald F ⟨by decide, rfl⟩ (ix_e i j) (by unfold ix; omega) (by decide) dX6_of_13 ?_
  exact j_iret F dX6_of_14 ⟨rfl, rfl⟩
set_option maxHeartbeats 4000000 in
set_option maxRecDepth 100000 in
theorem k_puts {Y : rcY} {la : Launch} {v : rcM} {i j : Nat} {x : Int32} (hi : i < 10) (hj : j < 15) : rcT shM 13 Y la 0 (yX6_puts, cX6_puts, 4, none) [.ref (Y.2.1 0), .int (nI i), .int (nI j), .int x] (v) (rV (rcr v 1 (upd (v 1) (ix i j) x))) := by
  refine rcT.of (by decide +kernel) (Nat.le_of_ble_eq_true rfl) (fun X F hn => ?_)
  refine j_aload_n F.1 dX6_puts_0 rfl ?_
  refine j_getr F (k := 0) inX6 rfl (by decide) fl_X6_7 ⟨by decide, rfl⟩ rfl dX6_puts_1 ?_
  refine j_bipush F.1 (8) dX6_puts_4 (by decide) ?_
  refine j_bipush F.1 (15) dX6_puts_6 (by decide) ?_
  refine j_iload_n F.1 dX6_puts_8 rfl ?_
  refine j_imul F.1 dX6_puts_9 ?_
  refine j_iadd F.1 dX6_puts_10 ?_
  refine j_iload_n F.1 dX6_puts_11 rfl ?_
  refine j_iadd F.1 dX6_puts_12 ?_
  refine j_iload_n F.1 dX6_puts_13 rfl ?_
  refine j_iast F ⟨by decide, rfl⟩ (ix_e i j) (by unfold ix; omega) (by decide) dX6_puts_14 ?_
  exact j_vret F dX6_puts_15 ((rVe rcu_r))
set_option maxHeartbeats 4000000 in
set_option maxRecDepth 100000 in
theorem k_begins {Y : rcY} {la : Launch} {v : rcM}  : rcT shM 13 Y la 0 (yX6_begins, cX6_begins, 2, none) [.ref (Y.2.1 0)] (v) (rV (rcr v 2 (cp 158 (v 1) (v 2)))) := by
  refine rcT.of (by decide +kernel) (Nat.le_of_ble_eq_true rfl) (fun X F hn => ?_)
  have loop : ∀ r t : Nat, t ≤ 158 → 158 < t + r → rcJ shM 13 Y X (rV (rcr v 2 (cp 158 (v 1) (v 2)))) 2 [(0, .ref (Y.2.1 0)), (1, .int (nI (t)))] [] (rcr v 2 (cp (t) (v 1) (v 2))) := by
    intro r
    induction r with
    | zero => intro t ht hr; omega
    | succ r ih =>
      intro t ht hr
      refine j_iload_n F.1 dX6_begins_2 rfl ?_
      refine j_sipush F.1 (158) dX6_begins_3 (by decide) ?_
      refine j_icmp_ge F.1 27 dX6_begins_6 (by decide) (fun h6 => ?_) (fun h6 => ?_)
      · have q6 : 158 ≤ t := (nI_leI (a := 158) (b := t) (by omega) (by omega)).mp h6
        exact j_vret F dX6_begins_27 ((rVe (by rw [Nat.le_antisymm ht q6])))
      · have q6 : t < 158 := Nat.lt_of_not_le (fun z => h6 ((nI_leI (a := 158) (b := t) (by omega) (by omega)).mpr z))
        refine j_aload_n F.1 dX6_begins_9 rfl ?_
        refine j_getr F (k := 1) inX6 rfl (by decide) fl_X6_13 ⟨by decide, rfl⟩ rfl dX6_begins_10 ?_
        refine j_iload_n F.1 dX6_begins_13 rfl ?_
        refine j_aload_n F.1 dX6_begins_14 rfl ?_
        refine j_getr F (k := 0) inX6 rfl (by decide) fl_X6_7 ⟨by decide, rfl⟩ rfl dX6_begins_15 ?_
        refine j_iload_n F.1 dX6_begins_18 rfl ?_
        refine j_iald F ⟨by decide, rfl⟩ rfl (by omega) (by decide) dX6_begins_19 ?_
        refine j_iast F ⟨by decide, rfl⟩ rfl (by omega) (by decide) dX6_begins_20 ?_
        refine j_iinc F.1 (1) dX6_begins_21 (by decide) rfl (by rw [hn]; decide) ?_
        refine j_goto F.1 2 dX6_begins_24 (by decide) ?_
        refine j_loc [(0, .ref (Y.2.1 0)), (1, .int (nI (t + 1)))] (by rw [← nI_1]; rfl) ?_
        rw [rcu_r, rcr_rcr, rcr_s, rcr_n (a := 2) (b := 1) (by decide), cp_s]
        exact ih (t + 1) (by omega) (by omega)
  refine j_iconst F.1 (0) dX6_begins_0 (by decide) ?_
  refine j_istore_n F.1 dX6_begins_1 (by rw [hn]; decide) ?_
  refine j_loc [(0, .ref (Y.2.1 0)), (1, .int (nI 0))] rfl ?_
  have e := loop 159 0 (by omega) (by omega)
  rw [cp_0, rcr_self] at e
  exact e
set_option maxHeartbeats 4000000 in
set_option maxRecDepth 100000 in
theorem k_returns {Y : rcY} {la : Launch} {v : rcM}  : rcT shM 13 Y la 0 (yX6_returns, cX6_returns, 2, none) [.ref (Y.2.1 0)] (v) (rV (rcr v 1 (cp 158 (v 2) (v 1)))) := by
  refine rcT.of (by decide +kernel) (Nat.le_of_ble_eq_true rfl) (fun X F hn => ?_)
  have loop : ∀ r t : Nat, t ≤ 158 → 158 < t + r → rcJ shM 13 Y X (rV (rcr v 1 (cp 158 (v 2) (v 1)))) 2 [(0, .ref (Y.2.1 0)), (1, .int (nI (t)))] [] (rcr v 1 (cp (t) (v 2) (v 1))) := by
    intro r
    induction r with
    | zero => intro t ht hr; omega
    | succ r ih =>
      intro t ht hr
      refine j_iload_n F.1 dX6_returns_2 rfl ?_
      refine j_sipush F.1 (158) dX6_returns_3 (by decide) ?_
      refine j_icmp_ge F.1 27 dX6_returns_6 (by decide) (fun h6 => ?_) (fun h6 => ?_)
      · have q6 : 158 ≤ t := (nI_leI (a := 158) (b := t) (by omega) (by omega)).mp h6
        exact j_vret F dX6_returns_27 ((rVe (by rw [Nat.le_antisymm ht q6])))
      · have q6 : t < 158 := Nat.lt_of_not_le (fun z => h6 ((nI_leI (a := 158) (b := t) (by omega) (by omega)).mpr z))
        refine j_aload_n F.1 dX6_returns_9 rfl ?_
        refine j_getr F (k := 0) inX6 rfl (by decide) fl_X6_7 ⟨by decide, rfl⟩ rfl dX6_returns_10 ?_
        refine j_iload_n F.1 dX6_returns_13 rfl ?_
        refine j_aload_n F.1 dX6_returns_14 rfl ?_
        refine j_getr F (k := 1) inX6 rfl (by decide) fl_X6_13 ⟨by decide, rfl⟩ rfl dX6_returns_15 ?_
        refine j_iload_n F.1 dX6_returns_18 rfl ?_
        refine j_iald F ⟨by decide, rfl⟩ rfl (by omega) (by decide) dX6_returns_19 ?_
        refine j_iast F ⟨by decide, rfl⟩ rfl (by omega) (by decide) dX6_returns_20 ?_
        refine j_iinc F.1 (1) dX6_returns_21 (by decide) rfl (by rw [hn]; decide) ?_
        refine j_goto F.1 2 dX6_returns_24 (by decide) ?_
        refine j_loc [(0, .ref (Y.2.1 0)), (1, .int (nI (t + 1)))] (by rw [← nI_1]; rfl) ?_
        rw [rcu_r, rcr_rcr, rcr_s, rcr_n (a := 1) (b := 2) (by decide), cp_s]
        exact ih (t + 1) (by omega) (by omega)
  refine j_iconst F.1 (0) dX6_returns_0 (by decide) ?_
  refine j_istore_n F.1 dX6_returns_1 (by rw [hn]; decide) ?_
  refine j_loc [(0, .ref (Y.2.1 0)), (1, .int (nI 0))] rfl ?_
  have e := loop 159 0 (by omega) (by omega)
  rw [cp_0, rcr_self] at e
  exact e
