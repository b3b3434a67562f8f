/-! The reference: a cell worked out afresh: what is wanted next, and what is settled. -/
def bitI (x : Int32) : Int32 := 1 <<< (x &&& 31)
/-- an answer afresh, with the set of the cells used -/
def ev : Nat → (Nat → Int32) → Nat → Option (Int32 × Int32)
  | 0, _, _ => none
  | n + 1, f, c =>
    if f (ix c 0) = 0 then some (f (ix c 1), 0)
    else match ev n f (cN (f (ix c 2))) with
      | none => none
      | some (a, S) =>
        if f (ix c 0) = 5 ∧ a = 2000000000 then some (2000000000, S ||| S ||| bitI (f (ix c 2)) ||| bitI (f (ix c 2)))
        else match ev n f (cN (A_nxt f c a)) with
          | none => none
          | some (b, T) => some (A_made (f (ix c 0)) a b, S ||| T ||| bitI (f (ix c 2)) ||| bitI (A_nxt f c a))
theorem ev_s (n : Nat) (f : Nat → Int32) (c : Nat) : ev (n + 1) f c =
    if f (ix c 0) = 0 then some (f (ix c 1), 0)
    else match ev n f (cN (f (ix c 2))) with
      | none => none
      | some (a, S) =>
        if f (ix c 0) = 5 ∧ a = 2000000000 then some (2000000000, S ||| S ||| bitI (f (ix c 2)) ||| bitI (f (ix c 2)))
        else match ev n f (cN (A_nxt f c a)) with
          | none => none
          | some (b, T) => some (A_made (f (ix c 0)) a b, S ||| T ||| bitI (f (ix c 2)) ||| bitI (A_nxt f c a)) := rfl
theorem ev_up {f : Nat → Int32} : ∀ (n : Nat) (c : Nat) (r : Int32 × Int32), ev n f c = some r → ev (n + 1) f c = some r := by
  intro n
  induction n with
  | zero => intro c r h; cases h
  | succ n ih =>
    intro c r h
    rw [ev_s] at h ⊢
    split at h
    · rename_i h0
      rw [if_pos h0]; exact h
    · rename_i h0
      rw [if_neg h0]
      cases e1 : ev n f (cN (f (ix c 2))) with
      | none => rw [e1] at h; cases h
      | some q =>
        obtain ⟨a, S⟩ := q
        rw [e1] at h
        rw [ih _ _ e1]
        dsimp only at h ⊢
        split at h
        · rename_i h5
          rw [if_pos h5]; exact h
        · rename_i h5
          rw [if_neg h5]
          cases e2 : ev n f (cN (A_nxt f c a)) with
          | none => rw [e2] at h; cases h
          | some q => rw [e2] at h; rw [ih _ _ e2]; exact h
theorem ev_le {f : Nat → Int32} {n m c : Nat} {r : Int32 × Int32} (h : ev n f c = some r) (hm : n ≤ m) : ev m f c = some r := by
  induction m with
  | zero => rw [Nat.le_zero.mp hm] at h; exact h
  | succ m ih =>
    rcases Nat.lt_or_ge n (m + 1) with q | q
    · exact ev_up _ _ _ (ih (by omega))
    · rw [Nat.le_antisymm hm q] at h; exact h
theorem ev_eq {f : Nat → Int32} {n m c : Nat} {r q : Int32 × Int32} (h : ev n f c = some r) (h2 : ev m f c = some q) : r = q := by
  have a := ev_le h (Nat.le_max_left n m)
  have b := ev_le h2 (Nat.le_max_right n m)
  exact Option.some.inj (a.symm.trans b)
/-- an answer of c is had only by an earlier one of d -/
def Desc (f : Nat → Int32) (c d : Nat) : Prop := ∀ m r, ev m f c = some r → ∃ m' r', m' < m ∧ ev m' f d = some r'
def Never (f : Nat → Int32) (c : Nat) : Prop := ∀ m, ev m f c = none
theorem Desc.tr {f : Nat → Int32} {a b c : Nat} (h : Desc f a b) (h2 : Desc f b c) : Desc f a c := fun m r e => by
  obtain ⟨m1, r1, l1, e1⟩ := h m r e
  obtain ⟨m2, r2, l2, e2⟩ := h2 m1 r1 e1
  exact ⟨m2, r2, by omega, e2⟩
theorem Desc.never {f : Nat → Int32} {a b : Nat} (h : Desc f a b) (hb : Never f b) : Never f a := fun m => by
  cases e : ev m f a with
  | none => rfl
  | some r =>
    obtain ⟨m1, r1, -, e1⟩ := h m r e
    rw [hb m1] at e1
    cases e1
theorem Desc.self {f : Nat → Int32} {a : Nat} (h : Desc f a a) : Never f a := by
  intro m
  induction m using Nat.strongRecOn with
  | _ m ih =>
    cases e : ev m f a with
    | none => rfl
    | some r =>
      obtain ⟨m1, r1, l1, e1⟩ := h m r e
      rw [ih m1 l1] at e1
      cases e1
theorem desc_1 {f : Nat → Int32} {c : Nat} (h0 : ¬ f (ix c 0) = 0) : Desc f c (cN (f (ix c 2))) := fun m r e => by
  cases m with
  | zero => cases e
  | succ m =>
    rw [ev_s, if_neg h0] at e
    cases e1 : ev m f (cN (f (ix c 2))) with
    | none => rw [e1] at e; cases e
    | some q => exact ⟨m, q, Nat.lt_succ_self _, e1⟩
theorem desc_2 {f : Nat → Int32} {c k : Nat} {a S : Int32} (h0 : ¬ f (ix c 0) = 0) (hx : ev k f (cN (f (ix c 2))) = some (a, S)) (h5 : ¬ (f (ix c 0) = 5 ∧ a = 2000000000)) : Desc f c (cN (A_nxt f c a)) := fun m r e => by
  cases m with
  | zero => cases e
  | succ m =>
    rw [ev_s, if_neg h0] at e
    cases e1 : ev m f (cN (f (ix c 2))) with
    | none => rw [e1] at e; cases e
    | some q =>
      have eq := ev_eq hx e1
      subst eq
      rw [e1] at e
      dsimp only at e
      rw [if_neg h5] at e
      cases e2 : ev m f (cN (A_nxt f c a)) with
      | none => rw [e2] at e; cases e
      | some q => exact ⟨m, q, Nat.lt_succ_self _, e2⟩
/-- the cell that is wanted next, or -1 -/
def M_want (v : rcM) (c x y : Nat) : Int32 :=
  if v 9 x < 2 then nI x else if v 1 (ix c 0) = 5 ∧ v 10 x = 2000000000 then -1 else if v 9 y < 2 then nI y else -1
set_option maxHeartbeats 4000000 in
set_option maxRecDepth 100000 in
theorem k_wantedBy {Y : rcY} {la : Launch} {v : rcM} {c x y : Nat} (hc : c < 10) (hx : v 1 (ix c 2) = nI x) (hx10 : x < 10) (hy : A_nxt (v 1) c (v 10 x) = nI y) (hy10 : y < 10) : rcT shM 13 Y la 1 (yX6_wantedBy, cX6_wantedBy, 5, (some .int)) [.ref (Y.2.1 0), .int (nI c)] (v) (rI (M_want v c x y) v) := by
  refine rcT.of (by decide +kernel) (Nat.le_of_ble_eq_true rfl) (fun X F hn => ?_)
  refine j_aload_n F.1 dX6_wantedBy_0 rfl ?_
  refine j_iload_n F.1 dX6_wantedBy_1 rfl ?_
  refine j_iconst F.1 (2) dX6_wantedBy_2 (by decide) ?_
  refine j_callVi F (k_of hc (by decide)) co_X6_of ml_X6_55 im_X6_of se_X6_of in_X6 rc_X6_of rfl (by decide) (by decide) ⟨by decide, rfl⟩ rfl rfl (Nat.le_of_ble_eq_true rfl) dX6_wantedBy_3 ?_
  refine j_top hx ?_
  refine j_istore_n F.1 dX6_wantedBy_6 (by rw [hn]; decide) ?_
  refine j_aload_n F.1 dX6_wantedBy_7 rfl ?_
  refine j_getr F (k := 12) inX6 rfl (by decide) fl_X6_34 ⟨by decide, rfl⟩ rfl dX6_wantedBy_8 ?_
  refine j_iload_n F.1 dX6_wantedBy_11 rfl ?_
  refine j_iald F ⟨by decide, rfl⟩ rfl (by omega) (by decide) dX6_wantedBy_12 ?_
  refine j_iconst F.1 (2) dX6_wantedBy_13 (by decide) ?_
  refine j_icmp_ge F.1 19 dX6_wantedBy_14 (by decide) (fun h14 => ?_) (fun h14 => ?_)
  · have w1 : ¬ v 9 x < 2 := Int32.not_lt.mpr h14
    refine j_aload_n F.1 dX6_wantedBy_19 rfl ?_
    refine j_iload_n F.1 dX6_wantedBy_20 rfl ?_
    refine j_iconst F.1 (0) dX6_wantedBy_21 (by decide) ?_
    refine j_callVi F (k_of hc (by decide)) co_X6_of ml_X6_55 im_X6_of se_X6_of in_X6 rc_X6_of rfl (by decide) (by decide) ⟨by decide, rfl⟩ rfl rfl (Nat.le_of_ble_eq_true rfl) dX6_wantedBy_22 ?_
    refine j_iconst F.1 (5) dX6_wantedBy_25 (by decide) ?_
    refine j_icmp_ne F.1 33 dX6_wantedBy_26 (by decide) (fun h26 => ?_) (fun h26 => ?_)
    · have w2 : ¬ (v 1 (ix c 0) = 5 ∧ v 10 x = 2000000000) := fun q => h26 q.1
      have hs2 : A_nxt (v 1) c (v 10 x) = v 1 (ix c 3) := if_neg (fun q => h26 q.1)
      refine j_iconst F.1 (0) dX6_wantedBy_33 (by decide) ?_
      refine j_istore_n F.1 dX6_wantedBy_34 (by rw [hn]; decide) ?_
      refine j_iload_n F.1 dX6_wantedBy_35 rfl ?_
      refine j_if_eq F.1 52 dX6_wantedBy_36 (by decide) (fun _ => ?_) (fun h36 => False.elim (by revert h36; decide))
      refine j_iload_n F.1 dX6_wantedBy_52 rfl ?_
      refine j_if_eq F.1 74 dX6_wantedBy_53 (by decide) (fun _ => ?_) (fun h53 => False.elim (by revert h53; decide))
      refine j_aload_n F.1 dX6_wantedBy_74 rfl ?_
      refine j_iload_n F.1 dX6_wantedBy_75 rfl ?_
      refine j_iconst F.1 (3) dX6_wantedBy_76 (by decide) ?_
      refine j_callVi F (k_of hc (by decide)) co_X6_of ml_X6_55 im_X6_of se_X6_of in_X6 rc_X6_of rfl (by decide) (by decide) ⟨by decide, rfl⟩ rfl rfl (Nat.le_of_ble_eq_true rfl) dX6_wantedBy_77 ?_
      refine j_top (y := nI y) (by rw [← hy, hs2]) ?_
      refine j_istore F.1 dX6_wantedBy_80 (by rw [hn]; decide) ?_
      refine j_aload_n F.1 dX6_wantedBy_82 rfl ?_
      refine j_getr F (k := 12) inX6 rfl (by decide) fl_X6_34 ⟨by decide, rfl⟩ rfl dX6_wantedBy_83 ?_
      refine j_iload F.1 dX6_wantedBy_86 rfl ?_
      refine j_iald F ⟨by decide, rfl⟩ rfl (by omega) (by decide) dX6_wantedBy_88 ?_
      refine j_iconst F.1 (2) dX6_wantedBy_89 (by decide) ?_
      refine j_icmp_ge F.1 98 dX6_wantedBy_90 (by decide) (fun h90 => ?_) (fun h90 => ?_)
      · have w3 : ¬ v 9 y < 2 := Int32.not_lt.mpr h90
        refine j_iconst F.1 (-1) dX6_wantedBy_98 (by decide) ?_
        exact j_iret F dX6_wantedBy_99 ((rIe (by unfold M_want; rw [if_neg w1, if_neg w2]; first | rw [if_pos w3] | rw [if_neg w3]) rfl))
      · have w3 : v 9 y < 2 := Int32.not_le.mp h90
        refine j_iload F.1 dX6_wantedBy_93 rfl ?_
        refine j_goto F.1 99 dX6_wantedBy_95 (by decide) ?_
        exact j_iret F dX6_wantedBy_99 ((rIe (by unfold M_want; rw [if_neg w1, if_neg w2]; first | rw [if_pos w3] | rw [if_neg w3]) rfl))
    · refine j_iconst F.1 (1) dX6_wantedBy_29 (by decide) ?_
      refine j_goto F.1 34 dX6_wantedBy_30 (by decide) ?_
      refine j_istore_n F.1 dX6_wantedBy_34 (by rw [hn]; decide) ?_
      refine j_iload_n F.1 dX6_wantedBy_35 rfl ?_
      refine j_if_eq F.1 52 dX6_wantedBy_36 (by decide) (fun h36 => False.elim (by revert h36; decide)) (fun _ => ?_)
      refine j_aload_n F.1 dX6_wantedBy_39 rfl ?_
      refine j_getr F (k := 13) inX6 rfl (by decide) fl_X6_37 ⟨by decide, rfl⟩ rfl dX6_wantedBy_40 ?_
      refine j_iload_n F.1 dX6_wantedBy_43 rfl ?_
      refine j_iald F ⟨by decide, rfl⟩ rfl (by omega) (by decide) dX6_wantedBy_44 ?_
      refine j_ldc F cn_X6_106 dX6_wantedBy_45 ?_
      refine j_icmp_ne F.1 52 dX6_wantedBy_47 (by decide) (fun h47 => ?_) (fun h47 => ?_)
      · have w2 : ¬ (v 1 (ix c 0) = 5 ∧ v 10 x = 2000000000) := fun q => h47 q.2
        refine j_iload_n F.1 dX6_wantedBy_52 rfl ?_
        refine j_if_eq F.1 74 dX6_wantedBy_53 (by decide) (fun h53 => False.elim (by revert h53; decide)) (fun _ => ?_)
        refine j_aload_n F.1 dX6_wantedBy_56 rfl ?_
        refine j_getr F (k := 13) inX6 rfl (by decide) fl_X6_37 ⟨by decide, rfl⟩ rfl dX6_wantedBy_57 ?_
        refine j_iload_n F.1 dX6_wantedBy_60 rfl ?_
        refine j_iald F ⟨by decide, rfl⟩ rfl (by omega) (by decide) dX6_wantedBy_61 ?_
        refine j_if_gt F.1 74 dX6_wantedBy_62 (by decide) (fun h62 => ?_) (fun h62 => ?_)
        · have hs2 : A_nxt (v 1) c (v 10 x) = v 1 (ix c 3) := if_neg (fun q => Int32.not_le.mpr h62 q.2)
          refine j_aload_n F.1 dX6_wantedBy_74 rfl ?_
          refine j_iload_n F.1 dX6_wantedBy_75 rfl ?_
          refine j_iconst F.1 (3) dX6_wantedBy_76 (by decide) ?_
          refine j_callVi F (k_of hc (by decide)) co_X6_of ml_X6_55 im_X6_of se_X6_of in_X6 rc_X6_of rfl (by decide) (by decide) ⟨by decide, rfl⟩ rfl rfl (Nat.le_of_ble_eq_true rfl) dX6_wantedBy_77 ?_
          refine j_top (y := nI y) (by rw [← hy, hs2]) ?_
          refine j_istore F.1 dX6_wantedBy_80 (by rw [hn]; decide) ?_
          refine j_aload_n F.1 dX6_wantedBy_82 rfl ?_
          refine j_getr F (k := 12) inX6 rfl (by decide) fl_X6_34 ⟨by decide, rfl⟩ rfl dX6_wantedBy_83 ?_
          refine j_iload F.1 dX6_wantedBy_86 rfl ?_
          refine j_iald F ⟨by decide, rfl⟩ rfl (by omega) (by decide) dX6_wantedBy_88 ?_
          refine j_iconst F.1 (2) dX6_wantedBy_89 (by decide) ?_
          refine j_icmp_ge F.1 98 dX6_wantedBy_90 (by decide) (fun h90 => ?_) (fun h90 => ?_)
          · have w3 : ¬ v 9 y < 2 := Int32.not_lt.mpr h90
            refine j_iconst F.1 (-1) dX6_wantedBy_98 (by decide) ?_
            exact j_iret F dX6_wantedBy_99 ((rIe (by unfold M_want; rw [if_neg w1, if_neg w2]; first | rw [if_pos w3] | rw [if_neg w3]) rfl))
          · have w3 : v 9 y < 2 := Int32.not_le.mp h90
            refine j_iload F.1 dX6_wantedBy_93 rfl ?_
            refine j_goto F.1 99 dX6_wantedBy_95 (by decide) ?_
            exact j_iret F dX6_wantedBy_99 ((rIe (by unfold M_want; rw [if_neg w1, if_neg w2]; first | rw [if_pos w3] | rw [if_neg w3]) rfl))
        · have hs2 : A_nxt (v 1) c (v 10 x) = v 1 (ix c 4) := if_pos (And.intro h26 (Int32.not_lt.mp h62))
          refine j_aload_n F.1 dX6_wantedBy_65 rfl ?_
          refine j_iload_n F.1 dX6_wantedBy_66 rfl ?_
          refine j_iconst F.1 (4) dX6_wantedBy_67 (by decide) ?_
          refine j_callVi F (k_of hc (by decide)) co_X6_of ml_X6_55 im_X6_of se_X6_of in_X6 rc_X6_of rfl (by decide) (by decide) ⟨by decide, rfl⟩ rfl rfl (Nat.le_of_ble_eq_true rfl) dX6_wantedBy_68 ?_
          refine j_goto F.1 80 dX6_wantedBy_71 (by decide) ?_
          refine j_top (y := nI y) (by rw [← hy, hs2]) ?_
          refine j_istore F.1 dX6_wantedBy_80 (by rw [hn]; decide) ?_
          refine j_aload_n F.1 dX6_wantedBy_82 rfl ?_
          refine j_getr F (k := 12) inX6 rfl (by decide) fl_X6_34 ⟨by decide, rfl⟩ rfl dX6_wantedBy_83 ?_
          refine j_iload F.1 dX6_wantedBy_86 rfl ?_
          refine j_iald F ⟨by decide, rfl⟩ rfl (by omega) (by decide) dX6_wantedBy_88 ?_
          refine j_iconst F.1 (2) dX6_wantedBy_89 (by decide) ?_
          refine j_icmp_ge F.1 98 dX6_wantedBy_90 (by decide) (fun h90 => ?_) (fun h90 => ?_)
          · have w3 : ¬ v 9 y < 2 := Int32.not_lt.mpr h90
            refine j_iconst F.1 (-1) dX6_wantedBy_98 (by decide) ?_
            exact j_iret F dX6_wantedBy_99 ((rIe (by unfold M_want; rw [if_neg w1, if_neg w2]; first | rw [if_pos w3] | rw [if_neg w3]) rfl))
          · have w3 : v 9 y < 2 := Int32.not_le.mp h90
            refine j_iload F.1 dX6_wantedBy_93 rfl ?_
            refine j_goto F.1 99 dX6_wantedBy_95 (by decide) ?_
            exact j_iret F dX6_wantedBy_99 ((rIe (by unfold M_want; rw [if_neg w1, if_neg w2]; first | rw [if_pos w3] | rw [if_neg w3]) rfl))
      · have w2 : v 1 (ix c 0) = 5 ∧ v 10 x = 2000000000 := And.intro h26 h47
        refine j_iconst F.1 (-1) dX6_wantedBy_50 (by decide) ?_
        exact j_iret F dX6_wantedBy_51 ((rIe (by unfold M_want; rw [if_neg w1, if_pos w2]) rfl))
  · have w1 : v 9 x < 2 := Int32.not_le.mp h14
    refine j_iload_n F.1 dX6_wantedBy_17 rfl ?_
    exact j_iret F dX6_wantedBy_18 ((rIe (by unfold M_want; rw [if_pos w1]) rfl))
/-- a cell that is settled; its first one is x, its second one y -/
def M_set0 (v : rcM) (c : Nat) : rcM := rcr (rcr (rcr v 9 (upd (v 9) c 2)) 11 (upd (v 11) c 0)) 10 (upd (v 10) c (v 1 (ix c 1)))
def M_settle (v : rcM) (c x y : Nat) : rcM := if 0 < v 1 (ix c 0) then rcr (rcr (rcr v 9 (upd (v 9) c 2)) 10 (upd (upd (v 10) c (v 1 (ix c 1))) c (A_made (v 1 (ix c 0)) (v 10 x) (v 10 y)))) 11 (upd (upd (v 11) c 0) c (v 11 x ||| v 11 y ||| bitI (nI x) ||| bitI (nI y))) else M_set0 v c
theorem rcr_sw {v : rcM} {a b : Nat} {f g : Nat → Int32} (h : a ≠ b) : rcr (rcr v a f) b g = rcr (rcr v b g) a f := by
  funext i
  unfold rcr
  by_cases h1 : i = a
  · subst h1; rw [if_neg h, if_pos rfl, if_pos rfl]
  · by_cases h2 : i = b
    · subst h2; rw [if_pos rfl, if_neg h1, if_pos rfl]
    · rw [if_neg h2, if_neg h1, if_neg h1, if_neg h2]
set_option maxHeartbeats 4000000 in
set_option maxRecDepth 100000 in
theorem k_settles {Y : rcY} {la : Launch} {v : rcM} {c x y : Nat} (hc : c < 10) (hx : 0 < v 1 (ix c 0) → v 1 (ix c 2) = nI x ∧ x < 10 ∧ x ≠ c) (hy : 0 < v 1 (ix c 0) → y < 10 ∧ y ≠ c ∧ nI y = (if v 1 (ix c 0) = 5 ∧ v 10 x = 2000000000 then nI x else A_nxt (v 1) c (v 10 x))) : rcT shM 13 Y la 2 (yX6_settles, cX6_settles, 5, none) [.ref (Y.2.1 0), .int (nI c)] (v) (rV (M_settle v c x y)) := by
  refine rcT.of (by decide +kernel) (Nat.le_of_ble_eq_true rfl) (fun X F hn => ?_)
  refine j_aload_n F.1 dX6_settles_0 rfl ?_
  refine j_getr F (k := 12) inX6 rfl (by decide) fl_X6_34 ⟨by decide, rfl⟩ rfl dX6_settles_1 ?_
  refine j_iload_n F.1 dX6_settles_4 rfl ?_
  refine j_iconst F.1 (2) dX6_settles_5 (by decide) ?_
  refine j_iast F ⟨by decide, rfl⟩ rfl (by omega) (by decide) dX6_settles_6 ?_
  refine j_aload_n F.1 dX6_settles_7 rfl ?_
  refine j_getr F (k := 14) inX6 rfl (by decide) fl_X6_40 ⟨by decide, rfl⟩ rfl dX6_settles_8 ?_
  refine j_iload_n F.1 dX6_settles_11 rfl ?_
  refine j_iconst F.1 (0) dX6_settles_12 (by decide) ?_
  refine j_iast F ⟨by decide, rfl⟩ rfl (by omega) (by decide) dX6_settles_13 ?_
  refine j_aload_n F.1 dX6_settles_14 rfl ?_
  refine j_getr F (k := 13) inX6 rfl (by decide) fl_X6_37 ⟨by decide, rfl⟩ rfl dX6_settles_15 ?_
  refine j_iload_n F.1 dX6_settles_18 rfl ?_
  refine j_aload_n F.1 dX6_settles_19 rfl ?_
  refine j_iload_n F.1 dX6_settles_20 rfl ?_
  refine j_iconst F.1 (1) dX6_settles_21 (by decide) ?_
  refine j_callVi F (k_of hc (by decide)) co_X6_of ml_X6_55 im_X6_of se_X6_of in_X6 rc_X6_of rfl (by decide) (by decide) ⟨by decide, rfl⟩ rfl rfl (Nat.le_of_ble_eq_true rfl) dX6_settles_22 ?_
  refine j_top (y := v 1 (ix c 1)) (by rw [rcu_ne (by decide), rcu_ne (by decide)]) ?_
  refine j_iast F ⟨by decide, rfl⟩ rfl (by omega) (by decide) dX6_settles_25 ?_
  rw [show rcu (rcu (rcu v 9 c 2) 11 c 0) 10 c (v 1 (ix c 1)) = M_set0 v c by unfold M_set0; rw [rcu_r, rcu_r, rcu_r, rcr_n (a := 9) (b := 11) (by decide), rcr_n (a := 11) (b := 10) (by decide), rcr_n (a := 9) (b := 10) (by decide)]]
  have m1 : M_set0 v c 1 = v 1 := by unfold M_set0; rw [rcr_n (by decide), rcr_n (by decide), rcr_n (by decide)]
  have m10 : M_set0 v c 10 = upd (v 10) c (v 1 (ix c 1)) := by unfold M_set0; rw [rcr_s]
  have m11 : M_set0 v c 11 = upd (v 11) c 0 := by unfold M_set0; rw [rcr_n (by decide), rcr_s]
  refine j_aload_n F.1 dX6_settles_26 rfl ?_
  refine j_iload_n F.1 dX6_settles_27 rfl ?_
  refine j_iconst F.1 (0) dX6_settles_28 (by decide) ?_
  refine j_callVi F (k_of hc (by decide)) co_X6_of ml_X6_55 im_X6_of se_X6_of in_X6 rc_X6_of rfl (by decide) (by decide) ⟨by decide, rfl⟩ rfl rfl (Nat.le_of_ble_eq_true rfl) dX6_settles_29 ?_
  refine j_top (y := v 1 (ix c 0)) (by rw [m1]) ?_
  refine j_if_le F.1 164 dX6_settles_32 (by decide) (fun h32 => ?_) (fun h32 => ?_)
  · have zz : ¬ 0 < v 1 (ix c 0) := Int32.not_lt.mpr h32
    exact j_vret F dX6_settles_164 ((rVe (by unfold M_settle; first | rw [if_neg zz] | (rw [if_pos nz, rcu_r, rcu_r, rcr_n (a := 10) (b := 11) (by decide), m10, m11]; unfold M_set0; rw [rcr_rcr, rcr_sw (a := 11) (b := 10) (by decide), rcr_rcr]; rfl))))
  · have nz : 0 < v 1 (ix c 0) := Int32.not_le.mp h32
    refine j_aload_n F.1 dX6_settles_35 rfl ?_
    refine j_iload_n F.1 dX6_settles_36 rfl ?_
    refine j_iconst F.1 (2) dX6_settles_37 (by decide) ?_
    refine j_callVi F (k_of hc (by decide)) co_X6_of ml_X6_55 im_X6_of se_X6_of in_X6 rc_X6_of rfl (by decide) (by decide) ⟨by decide, rfl⟩ rfl rfl (Nat.le_of_ble_eq_true rfl) dX6_settles_38 ?_
    refine j_top (y := nI x) (by rw [m1]; exact (hx nz).1) ?_
    refine j_istore_n F.1 dX6_settles_41 (by rw [hn]; decide) ?_
    refine j_aload_n F.1 dX6_settles_42 rfl ?_
    refine j_iload_n F.1 dX6_settles_43 rfl ?_
    refine j_iconst F.1 (0) dX6_settles_44 (by decide) ?_
    refine j_callVi F (k_of hc (by decide)) co_X6_of ml_X6_55 im_X6_of se_X6_of in_X6 rc_X6_of rfl (by decide) (by decide) ⟨by decide, rfl⟩ rfl rfl (Nat.le_of_ble_eq_true rfl) dX6_settles_45 ?_
    refine j_top (y := v 1 (ix c 0)) (by rw [m1]) ?_
    refine j_iconst F.1 (5) dX6_settles_48 (by decide) ?_
    refine j_icmp_ne F.1 56 dX6_settles_49 (by decide) (fun h49 => ?_) (fun h49 => ?_)
    · have e5 : (if v 1 (ix c 0) = 5 ∧ v 10 x = 2000000000 then nI x else A_nxt (v 1) c (v 10 x)) = v 1 (ix c 3) := by rw [if_neg (fun q => h49 q.1)]; exact if_neg (fun q => h49 q.1)
      refine j_iconst F.1 (0) dX6_settles_56 (by decide) ?_
      refine j_istore_n F.1 dX6_settles_57 (by rw [hn]; decide) ?_
      refine j_iload_n F.1 dX6_settles_58 rfl ?_
      refine j_if_eq F.1 77 dX6_settles_59 (by decide) (fun _ => ?_) (fun h59 => False.elim (by revert h59; decide))
      refine j_iload_n F.1 dX6_settles_77 rfl ?_
      refine j_if_eq F.1 99 dX6_settles_78 (by decide) (fun _ => ?_) (fun h78 => False.elim (by revert h78; decide))
      refine j_aload_n F.1 dX6_settles_99 rfl ?_
      refine j_iload_n F.1 dX6_settles_100 rfl ?_
      refine j_iconst F.1 (3) dX6_settles_101 (by decide) ?_
      refine j_callVi F (k_of hc (by decide)) co_X6_of ml_X6_55 im_X6_of se_X6_of in_X6 rc_X6_of rfl (by decide) (by decide) ⟨by decide, rfl⟩ rfl rfl (Nat.le_of_ble_eq_true rfl) dX6_settles_102 ?_
      refine j_top (y := nI y) (by rw [(hy nz).2.2, e5]; try rw [m1]) ?_
      refine j_istore F.1 dX6_settles_105 (by rw [hn]; decide) ?_
      refine j_aload_n F.1 dX6_settles_107 rfl ?_
      refine j_getr F (k := 13) inX6 rfl (by decide) fl_X6_37 ⟨by decide, rfl⟩ rfl dX6_settles_108 ?_
      refine j_iload_n F.1 dX6_settles_111 rfl ?_
      refine j_aload_n F.1 dX6_settles_112 rfl ?_
      refine j_iload_n F.1 dX6_settles_113 rfl ?_
      refine j_iconst F.1 (0) dX6_settles_114 (by decide) ?_
      refine j_callVi F (k_of hc (by decide)) co_X6_of ml_X6_55 im_X6_of se_X6_of in_X6 rc_X6_of rfl (by decide) (by decide) ⟨by decide, rfl⟩ rfl rfl (Nat.le_of_ble_eq_true rfl) dX6_settles_115 ?_
      refine j_top (y := v 1 (ix c 0)) (by rw [m1]) ?_
      refine j_aload_n F.1 dX6_settles_118 rfl ?_
      refine j_getr F (k := 13) inX6 rfl (by decide) fl_X6_37 ⟨by decide, rfl⟩ rfl dX6_settles_119 ?_
      refine j_iload_n F.1 dX6_settles_122 rfl ?_
      refine j_iald F ⟨by decide, rfl⟩ rfl (hx nz).2.1 (by decide) dX6_settles_123 ?_
      refine j_top (y := v 10 x) (by rw [m10, pk_un (hx nz).2.2]) ?_
      refine j_aload_n F.1 dX6_settles_124 rfl ?_
      refine j_getr F (k := 13) inX6 rfl (by decide) fl_X6_37 ⟨by decide, rfl⟩ rfl dX6_settles_125 ?_
      refine j_iload F.1 dX6_settles_128 rfl ?_
      refine j_iald F ⟨by decide, rfl⟩ rfl (hy nz).1 (by decide) dX6_settles_130 ?_
      refine j_top (y := v 10 y) (by rw [m10, pk_un (hy nz).2.1]) ?_
      refine j_callSi F (k_made) co_X6_made ml_X6_120 st_X6_made in_X6 rc_X6_made rfl (by decide) (by decide) rfl (Nat.le_of_ble_eq_true rfl) dX6_settles_131 ?_
      refine j_iast F ⟨by decide, rfl⟩ rfl (by omega) (by decide) dX6_settles_134 ?_
      refine j_aload_n F.1 dX6_settles_135 rfl ?_
      refine j_getr F (k := 14) inX6 rfl (by decide) fl_X6_40 ⟨by decide, rfl⟩ rfl dX6_settles_136 ?_
      refine j_iload_n F.1 dX6_settles_139 rfl ?_
      refine j_aload_n F.1 dX6_settles_140 rfl ?_
      refine j_getr F (k := 14) inX6 rfl (by decide) fl_X6_40 ⟨by decide, rfl⟩ rfl dX6_settles_141 ?_
      refine j_iload_n F.1 dX6_settles_144 rfl ?_
      refine j_iald F ⟨by decide, rfl⟩ rfl (hx nz).2.1 (by decide) dX6_settles_145 ?_
      refine j_top (y := v 11 x) (by rw [rcu_ne (by decide), m11, pk_un (hx nz).2.2]) ?_
      refine j_aload_n F.1 dX6_settles_146 rfl ?_
      refine j_getr F (k := 14) inX6 rfl (by decide) fl_X6_40 ⟨by decide, rfl⟩ rfl dX6_settles_147 ?_
      refine j_iload F.1 dX6_settles_150 rfl ?_
      refine j_iald F ⟨by decide, rfl⟩ rfl (hy nz).1 (by decide) dX6_settles_152 ?_
      refine j_top (y := v 11 y) (by rw [rcu_ne (by decide), m11, pk_un (hy nz).2.1]) ?_
      refine j_ior F.1 dX6_settles_153 ?_
      refine j_iconst F.1 (1) dX6_settles_154 (by decide) ?_
      refine j_iload_n F.1 dX6_settles_155 rfl ?_
      refine j_ishl F.1 dX6_settles_156 ?_
      refine j_ior F.1 dX6_settles_157 ?_
      refine j_iconst F.1 (1) dX6_settles_158 (by decide) ?_
      refine j_iload F.1 dX6_settles_159 rfl ?_
      refine j_ishl F.1 dX6_settles_161 ?_
      refine j_ior F.1 dX6_settles_162 ?_
      refine j_iast F ⟨by decide, rfl⟩ rfl (by omega) (by decide) dX6_settles_163 ?_
      exact j_vret F dX6_settles_164 ((rVe (by unfold M_settle; first | rw [if_neg zz] | (rw [if_pos nz, rcu_r, rcu_r, rcr_n (a := 10) (b := 11) (by decide), m10, m11]; unfold M_set0; rw [rcr_rcr, rcr_sw (a := 11) (b := 10) (by decide), rcr_rcr]; rfl))))
    · refine j_iconst F.1 (1) dX6_settles_52 (by decide) ?_
      refine j_goto F.1 57 dX6_settles_53 (by decide) ?_
      refine j_istore_n F.1 dX6_settles_57 (by rw [hn]; decide) ?_
      refine j_iload_n F.1 dX6_settles_58 rfl ?_
      refine j_if_eq F.1 77 dX6_settles_59 (by decide) (fun h59 => False.elim (by revert h59; decide)) (fun _ => ?_)
      refine j_aload_n F.1 dX6_settles_62 rfl ?_
      refine j_getr F (k := 13) inX6 rfl (by decide) fl_X6_37 ⟨by decide, rfl⟩ rfl dX6_settles_63 ?_
      refine j_iload_n F.1 dX6_settles_66 rfl ?_
      refine j_iald F ⟨by decide, rfl⟩ rfl (hx nz).2.1 (by decide) dX6_settles_67 ?_
      refine j_top (y := v 10 x) (by rw [m10, pk_un (hx nz).2.2]) ?_
      refine j_ldc F cn_X6_106 dX6_settles_68 ?_
      refine j_icmp_ne F.1 77 dX6_settles_70 (by decide) (fun h70 => ?_) (fun h70 => ?_)
      · refine j_iload_n F.1 dX6_settles_77 rfl ?_
        refine j_if_eq F.1 99 dX6_settles_78 (by decide) (fun h78 => False.elim (by revert h78; decide)) (fun _ => ?_)
        refine j_aload_n F.1 dX6_settles_81 rfl ?_
        refine j_getr F (k := 13) inX6 rfl (by decide) fl_X6_37 ⟨by decide, rfl⟩ rfl dX6_settles_82 ?_
        refine j_iload_n F.1 dX6_settles_85 rfl ?_
        refine j_iald F ⟨by decide, rfl⟩ rfl (hx nz).2.1 (by decide) dX6_settles_86 ?_
        refine j_top (y := v 10 x) (by rw [m10, pk_un (hx nz).2.2]) ?_
        refine j_if_gt F.1 99 dX6_settles_87 (by decide) (fun h87 => ?_) (fun h87 => ?_)
        · have e5 : (if v 1 (ix c 0) = 5 ∧ v 10 x = 2000000000 then nI x else A_nxt (v 1) c (v 10 x)) = v 1 (ix c 3) := by rw [if_neg (fun q => h70 q.2)]; exact if_neg (fun q => Int32.not_le.mpr h87 q.2)
          refine j_aload_n F.1 dX6_settles_99 rfl ?_
          refine j_iload_n F.1 dX6_settles_100 rfl ?_
          refine j_iconst F.1 (3) dX6_settles_101 (by decide) ?_
          refine j_callVi F (k_of hc (by decide)) co_X6_of ml_X6_55 im_X6_of se_X6_of in_X6 rc_X6_of rfl (by decide) (by decide) ⟨by decide, rfl⟩ rfl rfl (Nat.le_of_ble_eq_true rfl) dX6_settles_102 ?_
          refine j_top (y := nI y) (by rw [(hy nz).2.2, e5]; try rw [m1]) ?_
          refine j_istore F.1 dX6_settles_105 (by rw [hn]; decide) ?_
          refine j_aload_n F.1 dX6_settles_107 rfl ?_
          refine j_getr F (k := 13) inX6 rfl (by decide) fl_X6_37 ⟨by decide, rfl⟩ rfl dX6_settles_108 ?_
          refine j_iload_n F.1 dX6_settles_111 rfl ?_
          refine j_aload_n F.1 dX6_settles_112 rfl ?_
          refine j_iload_n F.1 dX6_settles_113 rfl ?_
          refine j_iconst F.1 (0) dX6_settles_114 (by decide) ?_
          refine j_callVi F (k_of hc (by decide)) co_X6_of ml_X6_55 im_X6_of se_X6_of in_X6 rc_X6_of rfl (by decide) (by decide) ⟨by decide, rfl⟩ rfl rfl (Nat.le_of_ble_eq_true rfl) dX6_settles_115 ?_
          refine j_top (y := v 1 (ix c 0)) (by rw [m1]) ?_
          refine j_aload_n F.1 dX6_settles_118 rfl ?_
          refine j_getr F (k := 13) inX6 rfl (by decide) fl_X6_37 ⟨by decide, rfl⟩ rfl dX6_settles_119 ?_
          refine j_iload_n F.1 dX6_settles_122 rfl ?_
          refine j_iald F ⟨by decide, rfl⟩ rfl (hx nz).2.1 (by decide) dX6_settles_123 ?_
          refine j_top (y := v 10 x) (by rw [m10, pk_un (hx nz).2.2]) ?_
          refine j_aload_n F.1 dX6_settles_124 rfl ?_
          refine j_getr F (k := 13) inX6 rfl (by decide) fl_X6_37 ⟨by decide, rfl⟩ rfl dX6_settles_125 ?_
          refine j_iload F.1 dX6_settles_128 rfl ?_
          refine j_iald F ⟨by decide, rfl⟩ rfl (hy nz).1 (by decide) dX6_settles_130 ?_
          refine j_top (y := v 10 y) (by rw [m10, pk_un (hy nz).2.1]) ?_
          refine j_callSi F (k_made) co_X6_made ml_X6_120 st_X6_made in_X6 rc_X6_made rfl (by decide) (by decide) rfl (Nat.le_of_ble_eq_true rfl) dX6_settles_131 ?_
          refine j_iast F ⟨by decide, rfl⟩ rfl (by omega) (by decide) dX6_settles_134 ?_
          refine j_aload_n F.1 dX6_settles_135 rfl ?_
          refine j_getr F (k := 14) inX6 rfl (by decide) fl_X6_40 ⟨by decide, rfl⟩ rfl dX6_settles_136 ?_
          refine j_iload_n F.1 dX6_settles_139 rfl ?_
          refine j_aload_n F.1 dX6_settles_140 rfl ?_
          refine j_getr F (k := 14) inX6 rfl (by decide) fl_X6_40 ⟨by decide, rfl⟩ rfl dX6_settles_141 ?_
          refine j_iload_n F.1 dX6_settles_144 rfl ?_
          refine j_iald F ⟨by decide, rfl⟩ rfl (hx nz).2.1 (by decide) dX6_settles_145 ?_
          refine j_top (y := v 11 x) (by rw [rcu_ne (by decide), m11, pk_un (hx nz).2.2]) ?_
          refine j_aload_n F.1 dX6_settles_146 rfl ?_
          refine j_getr F (k := 14) inX6 rfl (by decide) fl_X6_40 ⟨by decide, rfl⟩ rfl dX6_settles_147 ?_
          refine j_iload F.1 dX6_settles_150 rfl ?_
          refine j_iald F ⟨by decide, rfl⟩ rfl (hy nz).1 (by decide) dX6_settles_152 ?_
          refine j_top (y := v 11 y) (by rw [rcu_ne (by decide), m11, pk_un (hy nz).2.1]) ?_
          refine j_ior F.1 dX6_settles_153 ?_
          refine j_iconst F.1 (1) dX6_settles_154 (by decide) ?_
          refine j_iload_n F.1 dX6_settles_155 rfl ?_
          refine j_ishl F.1 dX6_settles_156 ?_
          refine j_ior F.1 dX6_settles_157 ?_
          refine j_iconst F.1 (1) dX6_settles_158 (by decide) ?_
          refine j_iload F.1 dX6_settles_159 rfl ?_
          refine j_ishl F.1 dX6_settles_161 ?_
          refine j_ior F.1 dX6_settles_162 ?_
          refine j_iast F ⟨by decide, rfl⟩ rfl (by omega) (by decide) dX6_settles_163 ?_
          exact j_vret F dX6_settles_164 ((rVe (by unfold M_settle; first | rw [if_neg zz] | (rw [if_pos nz, rcu_r, rcu_r, rcr_n (a := 10) (b := 11) (by decide), m10, m11]; unfold M_set0; rw [rcr_rcr, rcr_sw (a := 11) (b := 10) (by decide), rcr_rcr]; rfl))))
        · have e5 : (if v 1 (ix c 0) = 5 ∧ v 10 x = 2000000000 then nI x else A_nxt (v 1) c (v 10 x)) = v 1 (ix c 4) := by rw [if_neg (fun q => h70 q.2)]; exact if_pos (And.intro h49 (Int32.not_lt.mp h87))
          refine j_aload_n F.1 dX6_settles_90 rfl ?_
          refine j_iload_n F.1 dX6_settles_91 rfl ?_
          refine j_iconst F.1 (4) dX6_settles_92 (by decide) ?_
          refine j_callVi F (k_of hc (by decide)) co_X6_of ml_X6_55 im_X6_of se_X6_of in_X6 rc_X6_of rfl (by decide) (by decide) ⟨by decide, rfl⟩ rfl rfl (Nat.le_of_ble_eq_true rfl) dX6_settles_93 ?_
          refine j_goto F.1 105 dX6_settles_96 (by decide) ?_
          refine j_top (y := nI y) (by rw [(hy nz).2.2, e5]; try rw [m1]) ?_
          refine j_istore F.1 dX6_settles_105 (by rw [hn]; decide) ?_
          refine j_aload_n F.1 dX6_settles_107 rfl ?_
          refine j_getr F (k := 13) inX6 rfl (by decide) fl_X6_37 ⟨by decide, rfl⟩ rfl dX6_settles_108 ?_
          refine j_iload_n F.1 dX6_settles_111 rfl ?_
          refine j_aload_n F.1 dX6_settles_112 rfl ?_
          refine j_iload_n F.1 dX6_settles_113 rfl ?_
          refine j_iconst F.1 (0) dX6_settles_114 (by decide) ?_
          refine j_callVi F (k_of hc (by decide)) co_X6_of ml_X6_55 im_X6_of se_X6_of in_X6 rc_X6_of rfl (by decide) (by decide) ⟨by decide, rfl⟩ rfl rfl (Nat.le_of_ble_eq_true rfl) dX6_settles_115 ?_
          refine j_top (y := v 1 (ix c 0)) (by rw [m1]) ?_
          refine j_aload_n F.1 dX6_settles_118 rfl ?_
          refine j_getr F (k := 13) inX6 rfl (by decide) fl_X6_37 ⟨by decide, rfl⟩ rfl dX6_settles_119 ?_
          refine j_iload_n F.1 dX6_settles_122 rfl ?_
          refine j_iald F ⟨by decide, rfl⟩ rfl (hx nz).2.1 (by decide) dX6_settles_123 ?_
          refine j_top (y := v 10 x) (by rw [m10, pk_un (hx nz).2.2]) ?_
          refine j_aload_n F.1 dX6_settles_124 rfl ?_
          refine j_getr F (k := 13) inX6 rfl (by decide) fl_X6_37 ⟨by decide, rfl⟩ rfl dX6_settles_125 ?_
          refine j_iload F.1 dX6_settles_128 rfl ?_
          refine j_iald F ⟨by decide, rfl⟩ rfl (hy nz).1 (by decide) dX6_settles_130 ?_
          refine j_top (y := v 10 y) (by rw [m10, pk_un (hy nz).2.1]) ?_
          refine j_callSi F (k_made) co_X6_made ml_X6_120 st_X6_made in_X6 rc_X6_made rfl (by decide) (by decide) rfl (Nat.le_of_ble_eq_true rfl) dX6_settles_131 ?_
          refine j_iast F ⟨by decide, rfl⟩ rfl (by omega) (by decide) dX6_settles_134 ?_
          refine j_aload_n F.1 dX6_settles_135 rfl ?_
          refine j_getr F (k := 14) inX6 rfl (by decide) fl_X6_40 ⟨by decide, rfl⟩ rfl dX6_settles_136 ?_
          refine j_iload_n F.1 dX6_settles_139 rfl ?_
          refine j_aload_n F.1 dX6_settles_140 rfl ?_
          refine j_getr F (k := 14) inX6 rfl (by decide) fl_X6_40 ⟨by decide, rfl⟩ rfl dX6_settles_141 ?_
          refine j_iload_n F.1 dX6_settles_144 rfl ?_
          refine j_iald F ⟨by decide, rfl⟩ rfl (hx nz).2.1 (by decide) dX6_settles_145 ?_
          refine j_top (y := v 11 x) (by rw [rcu_ne (by decide), m11, pk_un (hx nz).2.2]) ?_
          refine j_aload_n F.1 dX6_settles_146 rfl ?_
          refine j_getr F (k := 14) inX6 rfl (by decide) fl_X6_40 ⟨by decide, rfl⟩ rfl dX6_settles_147 ?_
          refine j_iload F.1 dX6_settles_150 rfl ?_
          refine j_iald F ⟨by decide, rfl⟩ rfl (hy nz).1 (by decide) dX6_settles_152 ?_
          refine j_top (y := v 11 y) (by rw [rcu_ne (by decide), m11, pk_un (hy nz).2.1]) ?_
          refine j_ior F.1 dX6_settles_153 ?_
          refine j_iconst F.1 (1) dX6_settles_154 (by decide) ?_
          refine j_iload_n F.1 dX6_settles_155 rfl ?_
          refine j_ishl F.1 dX6_settles_156 ?_
          refine j_ior F.1 dX6_settles_157 ?_
          refine j_iconst F.1 (1) dX6_settles_158 (by decide) ?_
          refine j_iload F.1 dX6_settles_159 rfl ?_
          refine j_ishl F.1 dX6_settles_161 ?_
          refine j_ior F.1 dX6_settles_162 ?_
          refine j_iast F ⟨by decide, rfl⟩ rfl (by omega) (by decide) dX6_settles_163 ?_
          exact j_vret F dX6_settles_164 ((rVe (by unfold M_settle; first | rw [if_neg zz] | (rw [if_pos nz, rcu_r, rcu_r, rcr_n (a := 10) (b := 11) (by decide), m10, m11]; unfold M_set0; rw [rcr_rcr, rcr_sw (a := 11) (b := 10) (by decide), rcr_rcr]; rfl))))
      · have e5 : (if v 1 (ix c 0) = 5 ∧ v 10 x = 2000000000 then nI x else A_nxt (v 1) c (v 10 x)) = nI x := if_pos (And.intro h49 h70)
        refine j_iload_n F.1 dX6_settles_73 rfl ?_
        refine j_goto F.1 105 dX6_settles_74 (by decide) ?_
        refine j_top (y := nI y) (by rw [(hy nz).2.2, e5]; try rw [m1]) ?_
        refine j_istore F.1 dX6_settles_105 (by rw [hn]; decide) ?_
        refine j_aload_n F.1 dX6_settles_107 rfl ?_
        refine j_getr F (k := 13) inX6 rfl (by decide) fl_X6_37 ⟨by decide, rfl⟩ rfl dX6_settles_108 ?_
        refine j_iload_n F.1 dX6_settles_111 rfl ?_
        refine j_aload_n F.1 dX6_settles_112 rfl ?_
        refine j_iload_n F.1 dX6_settles_113 rfl ?_
        refine j_iconst F.1 (0) dX6_settles_114 (by decide) ?_
        refine j_callVi F (k_of hc (by decide)) co_X6_of ml_X6_55 im_X6_of se_X6_of in_X6 rc_X6_of rfl (by decide) (by decide) ⟨by decide, rfl⟩ rfl rfl (Nat.le_of_ble_eq_true rfl) dX6_settles_115 ?_
        refine j_top (y := v 1 (ix c 0)) (by rw [m1]) ?_
        refine j_aload_n F.1 dX6_settles_118 rfl ?_
        refine j_getr F (k := 13) inX6 rfl (by decide) fl_X6_37 ⟨by decide, rfl⟩ rfl dX6_settles_119 ?_
        refine j_iload_n F.1 dX6_settles_122 rfl ?_
        refine j_iald F ⟨by decide, rfl⟩ rfl (hx nz).2.1 (by decide) dX6_settles_123 ?_
        refine j_top (y := v 10 x) (by rw [m10, pk_un (hx nz).2.2]) ?_
        refine j_aload_n F.1 dX6_settles_124 rfl ?_
        refine j_getr F (k := 13) inX6 rfl (by decide) fl_X6_37 ⟨by decide, rfl⟩ rfl dX6_settles_125 ?_
        refine j_iload F.1 dX6_settles_128 rfl ?_
        refine j_iald F ⟨by decide, rfl⟩ rfl (hy nz).1 (by decide) dX6_settles_130 ?_
        refine j_top (y := v 10 y) (by rw [m10, pk_un (hy nz).2.1]) ?_
        refine j_callSi F (k_made) co_X6_made ml_X6_120 st_X6_made in_X6 rc_X6_made rfl (by decide) (by decide) rfl (Nat.le_of_ble_eq_true rfl) dX6_settles_131 ?_
        refine j_iast F ⟨by decide, rfl⟩ rfl (by omega) (by decide) dX6_settles_134 ?_
        refine j_aload_n F.1 dX6_settles_135 rfl ?_
        refine j_getr F (k := 14) inX6 rfl (by decide) fl_X6_40 ⟨by decide, rfl⟩ rfl dX6_settles_136 ?_
        refine j_iload_n F.1 dX6_settles_139 rfl ?_
        refine j_aload_n F.1 dX6_settles_140 rfl ?_
        refine j_getr F (k := 14) inX6 rfl (by decide) fl_X6_40 ⟨by decide, rfl⟩ rfl dX6_settles_141 ?_
        refine j_iload_n F.1 dX6_settles_144 rfl ?_
        refine j_iald F ⟨by decide, rfl⟩ rfl (hx nz).2.1 (by decide) dX6_settles_145 ?_
        refine j_top (y := v 11 x) (by rw [rcu_ne (by decide), m11, pk_un (hx nz).2.2]) ?_
        refine j_aload_n F.1 dX6_settles_146 rfl ?_
        refine j_getr F (k := 14) inX6 rfl (by decide) fl_X6_40 ⟨by decide, rfl⟩ rfl dX6_settles_147 ?_
        refine j_iload F.1 dX6_settles_150 rfl ?_
        refine j_iald F ⟨by decide, rfl⟩ rfl (hy nz).1 (by decide) dX6_settles_152 ?_
        refine j_top (y := v 11 y) (by rw [rcu_ne (by decide), m11, pk_un (hy nz).2.1]) ?_
        refine j_ior F.1 dX6_settles_153 ?_
        refine j_iconst F.1 (1) dX6_settles_154 (by decide) ?_
        refine j_iload_n F.1 dX6_settles_155 rfl ?_
        refine j_ishl F.1 dX6_settles_156 ?_
        refine j_ior F.1 dX6_settles_157 ?_
        refine j_iconst F.1 (1) dX6_settles_158 (by decide) ?_
        refine j_iload F.1 dX6_settles_159 rfl ?_
        refine j_ishl F.1 dX6_settles_161 ?_
        refine j_ior F.1 dX6_settles_162 ?_
        refine j_iast F ⟨by decide, rfl⟩ rfl (by omega) (by decide) dX6_settles_163 ?_
        exact j_vret F dX6_settles_164 ((rVe (by unfold M_settle; first | rw [if_neg zz] | (rw [if_pos nz, rcu_r, rcu_r, rcr_n (a := 10) (b := 11) (by decide), m10, m11]; unfold M_set0; rw [rcr_rcr, rcr_sw (a := 11) (b := 10) (by decide), rcr_rcr]; rfl))))
