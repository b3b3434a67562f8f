/-! The reference: its text. -/
def bI (t : Bool) : Int32 := if t then 1 else 0
theorem bI_01 (t : Bool) : bI t = 0 ∨ bI t = 1 := by cases t <;> simp [bI]
theorem bI_b2 {p : Prop} [Decidable p] : b2 p = bI (decide p) := by unfold b2 bI; by_cases h : p <;> simp [h]
theorem rcb_bI (t : Bool) : rcb (bI t) = bI t := by cases t <;> rfl
/-- the character at a place, -1 behind the end -/
def chr (tx : Nat → Int32) (ln p : Nat) : Int32 := if p < ln then tx p else -1
def letB (c : Int32) : Bool := decide (97 ≤ c ∧ c ≤ 106)
def digB (c : Int32) : Bool := decide (48 ≤ c ∧ c ≤ 57)
def kf (c : Int32) : Int32 := if c = 43 then 1 else if c = 45 then 2 else if c = 42 then 3 else if c = 94 then 4 else if c = 63 then 5 else 0
/-- the memory in which reading stands at p, the form is kept if o, and rd is what was read -/
def TM (v : rcM) (p : Nat) (o : Bool) (rd : Nat → Int32) : rcM := fun id j => if id = 0 then (if j = 15 then nI p else if j = 16 then bI o else v 0 j) else if id = 12 then rd j else v id j
theorem TM_at {v : rcM} {p q : Nat} {o : Bool} {rd : Nat → Int32} : rcu (TM v p o rd) 0 15 (nI q) = TM v q o rd := by
  funext id j
  unfold rcu TM
  by_cases h : id = 0
  · by_cases h2 : j = 15
    · simp [h, h2]
    · simp [h, h2]
  · simp [h]
theorem TM_fm {v : rcM} {p : Nat} {o o' : Bool} {rd : Nat → Int32} : rcu (TM v p o rd) 0 16 (bI o') = TM v p o' rd := by
  funext id j
  unfold rcu TM
  by_cases h : id = 0
  · by_cases h2 : j = 16
    · simp [h, h2]
    · simp [h, h2]
  · simp [h]
theorem TM_rd {v : rcM} {p k : Nat} {o : Bool} {rd : Nat → Int32} {x : Int32} : rcu (TM v p o rd) 12 k x = TM v p o (upd rd k x) := by
  funext id j
  unfold rcu TM upd
  by_cases h : id = 12
  · by_cases h2 : j = k
    · simp [h, h2]
    · simp [h, h2]
  · simp [h]
theorem TM_15 {v : rcM} {p : Nat} {o : Bool} {rd : Nat → Int32} : TM v p o rd 0 15 = nI p := rfl
theorem TM_16 {v : rcM} {p : Nat} {o : Bool} {rd : Nat → Int32} : TM v p o rd 0 16 = bI o := rfl
theorem TM_12 {v : rcM} {p : Nat} {o : Bool} {rd : Nat → Int32} : TM v p o rd 12 = rd := rfl
theorem TM_4 {v : rcM} {p : Nat} {o : Bool} {rd : Nat → Int32} : TM v p o rd 4 = v 4 := rfl
theorem TM_5 {v : rcM} {p : Nat} {o : Bool} {rd : Nat → Int32} : TM v p o rd 0 5 = v 0 5 := rfl
theorem TM_v {v : rcM} {p : Nat} {o : Bool} {rd : Nat → Int32} (h : v 0 15 = nI p) (h2 : v 0 16 = bI o) (h3 : v 12 = rd) : TM v p o rd = v := by
  funext id j
  unfold TM
  by_cases e : id = 0
  · subst e
    by_cases e2 : j = 15
    · subst e2; simp [h]
    · by_cases e3 : j = 16
      · subst e3; simp [h2]
      · simp [e2, e3]
  · by_cases e2 : id = 12
    · subst e2; simp [h3]
    · simp [e, e2]
/-- a step of reading -/
def tk (s : Nat × Bool) (t : Bool) : Nat × Bool := (s.1 + (if s.2 && t then 1 else 0), s.2 && t)
set_option maxHeartbeats 4000000 in
set_option maxRecDepth 100000 in
theorem k_here {Y : rcY} {la : Launch} {v : rcM} {p ln : Nat} {o : Bool} {rd : Nat → Int32} (hl : v 0 5 = nI ln) (hln : ln ≤ 60) (hp : p ≤ 100) : rcT shM 13 Y la 0 (yX6_here, cX6_here, 1, (some .int)) [.ref (Y.2.1 0)] (TM v p o rd) (rI (chr (v 4) ln p) (TM v p o rd)) := by
  refine rcT.of (by decide +kernel) (Nat.le_of_ble_eq_true rfl) (fun X F hn => ?_)
  refine j_aload_n F.1 dX6_here_0 rfl ?_
  refine j_geti F (k := 15) inX6 rfl (by decide) fl_X6_173 ⟨by decide, rfl⟩ rfl dX6_here_1 ?_
  refine j_top (y := nI p) rfl ?_
  refine j_aload_n F.1 dX6_here_4 rfl ?_
  refine j_geti F (k := 5) inX6 rfl (by decide) fl_X6_170 ⟨by decide, rfl⟩ rfl dX6_here_5 ?_
  refine j_top (y := nI ln) hl ?_
  refine j_icmp_ge F.1 23 dX6_here_8 (by decide) (fun h8 => ?_) (fun h8 => ?_)
  · have q : ¬ p < ln := fun z => nI_ge z (by omega) h8
    refine j_iconst F.1 (-1) dX6_here_23 (by decide) ?_
    exact j_iret F dX6_here_24 ((rIe (by unfold chr; first | rw [if_neg q] | (rw [if_pos q]; rfl)) rfl))
  · have q : p < ln := by
      rcases Nat.lt_or_ge p ln with z | z
      · exact z
      · exact absurd (nI_le z (by omega)) h8
    refine j_aload_n F.1 dX6_here_11 rfl ?_
    refine j_getr F (k := 4) inX6 rfl (by decide) fl_X6_19 ⟨by decide, rfl⟩ rfl dX6_here_12 ?_
    refine j_aload_n F.1 dX6_here_15 rfl ?_
    refine j_geti F (k := 15) inX6 rfl (by decide) fl_X6_173 ⟨by decide, rfl⟩ rfl dX6_here_16 ?_
    refine j_iald F ⟨by decide, rfl⟩ (show TM v p o rd 0 15 = nI p from rfl) (by omega) (by decide) dX6_here_19 ?_
    refine j_goto F.1 24 dX6_here_20 (by decide) ?_
    exact j_iret F dX6_here_24 ((rIe (by unfold chr; first | rw [if_neg q] | (rw [if_pos q]; rfl)) rfl))
set_option maxHeartbeats 4000000 in
set_option maxRecDepth 100000 in
theorem k_takes {Y : rcY} {la : Launch} {v : rcM} {p : Nat} {o b : Bool} {rd : Nat → Int32} : rcT shM 13 Y la 0 (yX6_takes, cX6_takes, 2, none) [.ref (Y.2.1 0), .int (bI b)] (TM v p o rd) (rV (TM v (tk (p, o) b).1 (tk (p, o) b).2 rd)) := by
  refine rcT.of (by decide +kernel) (Nat.le_of_ble_eq_true rfl) (fun X F hn => ?_)
  refine j_aload_n F.1 dX6_takes_0 rfl ?_
  refine j_aload_n F.1 dX6_takes_1 rfl ?_
  refine j_getz F (k := 16) inX6 rfl (by decide) fl_X6_176 ⟨by decide, rfl⟩ rfl dX6_takes_2 ?_
  refine j_top (y := bI o) (rcb_bI o) ?_
  refine j_if_eq F.1 16 dX6_takes_5 (by decide) (fun h5 => ?_) (fun h5 => ?_)
  · have q : (o && b) = false := by cases o <;> simp_all [bI]
    refine j_iconst F.1 (0) dX6_takes_16 (by decide) ?_
    refine j_top (y := bI (o && b)) (by rw [q]; rfl) ?_
    refine j_putz F (k := 16) inX6 tyX6_ok nmX6 rfl (by decide) fl_X6_176 rfl rfl ⟨by decide, rfl⟩ rfl (bI_01 _) dX6_takes_17 ?_
    rw [TM_fm]
    refine j_aload_n F.1 dX6_takes_20 rfl ?_
    refine j_dup F.1 dX6_takes_21 rfl ?_
    refine j_geti F (k := 15) inX6 rfl (by decide) fl_X6_173 ⟨by decide, rfl⟩ rfl dX6_takes_22 ?_
    refine j_aload_n F.1 dX6_takes_25 rfl ?_
    refine j_getz F (k := 16) inX6 rfl (by decide) fl_X6_176 ⟨by decide, rfl⟩ rfl dX6_takes_26 ?_
    refine j_top (y := bI (o && b)) (rcb_bI _) ?_
    refine j_if_eq F.1 36 dX6_takes_29 (by decide) (fun h29 => ?_) (fun h29 => ?_)
    · have z : (o && b) = false := by cases o <;> cases b <;> simp_all [bI]
      refine j_iconst F.1 (0) dX6_takes_36 (by decide) ?_
      refine j_iadd F.1 dX6_takes_37 ?_
      refine j_top (y := nI (p + if (o && b) then 1 else 0)) (by rw [z]; first | exact nI_1 p | exact nI_add p 0) ?_
      refine j_puti F (k := 15) inX6 tyX6_ok nmX6 rfl (by decide) fl_X6_173 rfl rfl ⟨by decide, rfl⟩ rfl dX6_takes_38 ?_
      exact j_vret F dX6_takes_41 ((rVe (by rw [TM_at]; rfl)))
    · have z : (o && b) = true := by cases o <;> cases b <;> simp_all [bI]
      refine j_iconst F.1 (1) dX6_takes_32 (by decide) ?_
      refine j_goto F.1 37 dX6_takes_33 (by decide) ?_
      refine j_iadd F.1 dX6_takes_37 ?_
      refine j_top (y := nI (p + if (o && b) then 1 else 0)) (by rw [z]; first | exact nI_1 p | exact nI_add p 0) ?_
      refine j_puti F (k := 15) inX6 tyX6_ok nmX6 rfl (by decide) fl_X6_173 rfl rfl ⟨by decide, rfl⟩ rfl dX6_takes_38 ?_
      exact j_vret F dX6_takes_41 ((rVe (by rw [TM_at]; rfl)))
  · refine j_iload_n F.1 dX6_takes_8 rfl ?_
    refine j_if_eq F.1 16 dX6_takes_9 (by decide) (fun h9 => ?_) (fun h9 => ?_)
    · have q : (o && b) = false := by cases b <;> simp_all [bI]
      refine j_iconst F.1 (0) dX6_takes_16 (by decide) ?_
      refine j_top (y := bI (o && b)) (by rw [q]; rfl) ?_
      refine j_putz F (k := 16) inX6 tyX6_ok nmX6 rfl (by decide) fl_X6_176 rfl rfl ⟨by decide, rfl⟩ rfl (bI_01 _) dX6_takes_17 ?_
      rw [TM_fm]
      refine j_aload_n F.1 dX6_takes_20 rfl ?_
      refine j_dup F.1 dX6_takes_21 rfl ?_
      refine j_geti F (k := 15) inX6 rfl (by decide) fl_X6_173 ⟨by decide, rfl⟩ rfl dX6_takes_22 ?_
      refine j_aload_n F.1 dX6_takes_25 rfl ?_
      refine j_getz F (k := 16) inX6 rfl (by decide) fl_X6_176 ⟨by decide, rfl⟩ rfl dX6_takes_26 ?_
      refine j_top (y := bI (o && b)) (rcb_bI _) ?_
      refine j_if_eq F.1 36 dX6_takes_29 (by decide) (fun h29 => ?_) (fun h29 => ?_)
      · have z : (o && b) = false := by cases o <;> cases b <;> simp_all [bI]
        refine j_iconst F.1 (0) dX6_takes_36 (by decide) ?_
        refine j_iadd F.1 dX6_takes_37 ?_
        refine j_top (y := nI (p + if (o && b) then 1 else 0)) (by rw [z]; first | exact nI_1 p | exact nI_add p 0) ?_
        refine j_puti F (k := 15) inX6 tyX6_ok nmX6 rfl (by decide) fl_X6_173 rfl rfl ⟨by decide, rfl⟩ rfl dX6_takes_38 ?_
        exact j_vret F dX6_takes_41 ((rVe (by rw [TM_at]; rfl)))
      · have z : (o && b) = true := by cases o <;> cases b <;> simp_all [bI]
        refine j_iconst F.1 (1) dX6_takes_32 (by decide) ?_
        refine j_goto F.1 37 dX6_takes_33 (by decide) ?_
        refine j_iadd F.1 dX6_takes_37 ?_
        refine j_top (y := nI (p + if (o && b) then 1 else 0)) (by rw [z]; first | exact nI_1 p | exact nI_add p 0) ?_
        refine j_puti F (k := 15) inX6 tyX6_ok nmX6 rfl (by decide) fl_X6_173 rfl rfl ⟨by decide, rfl⟩ rfl dX6_takes_38 ?_
        exact j_vret F dX6_takes_41 ((rVe (by rw [TM_at]; rfl)))
    · have q : (o && b) = true := by cases o <;> cases b <;> simp_all [bI]
      refine j_iconst F.1 (1) dX6_takes_12 (by decide) ?_
      refine j_goto F.1 17 dX6_takes_13 (by decide) ?_
      refine j_top (y := bI (o && b)) (by rw [q]; rfl) ?_
      refine j_putz F (k := 16) inX6 tyX6_ok nmX6 rfl (by decide) fl_X6_176 rfl rfl ⟨by decide, rfl⟩ rfl (bI_01 _) dX6_takes_17 ?_
      rw [TM_fm]
      refine j_aload_n F.1 dX6_takes_20 rfl ?_
      refine j_dup F.1 dX6_takes_21 rfl ?_
      refine j_geti F (k := 15) inX6 rfl (by decide) fl_X6_173 ⟨by decide, rfl⟩ rfl dX6_takes_22 ?_
      refine j_aload_n F.1 dX6_takes_25 rfl ?_
      refine j_getz F (k := 16) inX6 rfl (by decide) fl_X6_176 ⟨by decide, rfl⟩ rfl dX6_takes_26 ?_
      refine j_top (y := bI (o && b)) (rcb_bI _) ?_
      refine j_if_eq F.1 36 dX6_takes_29 (by decide) (fun h29 => ?_) (fun h29 => ?_)
      · have z : (o && b) = false := by cases o <;> cases b <;> simp_all [bI]
        refine j_iconst F.1 (0) dX6_takes_36 (by decide) ?_
        refine j_iadd F.1 dX6_takes_37 ?_
        refine j_top (y := nI (p + if (o && b) then 1 else 0)) (by rw [z]; first | exact nI_1 p | exact nI_add p 0) ?_
        refine j_puti F (k := 15) inX6 tyX6_ok nmX6 rfl (by decide) fl_X6_173 rfl rfl ⟨by decide, rfl⟩ rfl dX6_takes_38 ?_
        exact j_vret F dX6_takes_41 ((rVe (by rw [TM_at]; rfl)))
      · have z : (o && b) = true := by cases o <;> cases b <;> simp_all [bI]
        refine j_iconst F.1 (1) dX6_takes_32 (by decide) ?_
        refine j_goto F.1 37 dX6_takes_33 (by decide) ?_
        refine j_iadd F.1 dX6_takes_37 ?_
        refine j_top (y := nI (p + if (o && b) then 1 else 0)) (by rw [z]; first | exact nI_1 p | exact nI_add p 0) ?_
        refine j_puti F (k := 15) inX6 tyX6_ok nmX6 rfl (by decide) fl_X6_173 rfl rfl ⟨by decide, rfl⟩ rfl dX6_takes_38 ?_
        exact j_vret F dX6_takes_41 ((rVe (by rw [TM_at]; rfl)))
set_option maxHeartbeats 4000000 in
set_option maxRecDepth 100000 in
theorem k_readLetter {Y : rcY} {la : Launch} {v : rcM} {p ln : Nat} {o : Bool} {rd : Nat → Int32} (hl : v 0 5 = nI ln) (hln : ln ≤ 60) (hp : p ≤ 100) : rcT shM 13 Y la 1 (yX6_readLetter, cX6_readLetter, 2, (some .int)) [.ref (Y.2.1 0)] (TM v p o rd) (rI (chr (v 4) ln p - 97) (TM v (tk (p, o) (letB (chr (v 4) ln p))).1 (tk (p, o) (letB (chr (v 4) ln p))).2 rd)) := by
  refine rcT.of (by decide +kernel) (Nat.le_of_ble_eq_true rfl) (fun X F hn => ?_)
  refine j_aload_n F.1 dX6_readLetter_0 rfl ?_
  refine j_callVi F (k_here hl hln hp) co_X6_here ml_X6_179 im_X6_here se_X6_here in_X6 rc_X6_here rfl (by decide) (by decide) ⟨by decide, rfl⟩ rfl rfl (Nat.le_of_ble_eq_true rfl) dX6_readLetter_1 ?_
  refine j_istore_n F.1 dX6_readLetter_4 (by rw [hn]; decide) ?_
  refine j_aload_n F.1 dX6_readLetter_5 rfl ?_
  refine j_iload_n F.1 dX6_readLetter_6 rfl ?_
  refine j_bipush F.1 (97) dX6_readLetter_7 (by decide) ?_
  refine j_bipush F.1 (106) dX6_readLetter_9 (by decide) ?_
  refine j_callSi F (k_in) co_X6_in ml_X6_46 st_X6_in in_X6 rc_X6_in rfl (by decide) (by decide) rfl (Nat.le_of_ble_eq_true rfl) dX6_readLetter_11 ?_
  refine j_top (y := bI (letB (chr (v 4) ln p))) bI_b2 ?_
  refine j_callVv F (k_takes) co_X6_takes ml_X6_182 im_X6_takes se_X6_takes in_X6 rc_X6_takes rfl (by decide) (by decide) ⟨by decide, rfl⟩ rfl rfl (Nat.le_of_ble_eq_true rfl) dX6_readLetter_14 ?_
  refine j_iload_n F.1 dX6_readLetter_17 rfl ?_
  refine j_bipush F.1 (97) dX6_readLetter_18 (by decide) ?_
  refine j_isub F.1 dX6_readLetter_20 ?_
  exact j_iret F dX6_readLetter_21 ⟨rfl, rfl⟩
set_option maxHeartbeats 4000000 in
set_option maxRecDepth 100000 in
theorem k_kindOf {Y : rcY} {la : Launch} {v : rcM} {c : Int32} : rcT shM 13 Y la 0 (yX6_kindOf, cX6_kindOf, 1, (some .int)) [.int c] (v) (rI (kf c) v) := by
  refine rcT.of (by decide +kernel) (Nat.le_of_ble_eq_true rfl) (fun X F hn => ?_)
  refine j_iload_n F.1 dX6_kindOf_0 rfl ?_
  refine j_bipush F.1 (43) dX6_kindOf_1 (by decide) ?_
  refine j_icmp_ne F.1 10 dX6_kindOf_3 (by decide) (fun h3 => ?_) (fun h3 => ?_)
  · refine j_iload_n F.1 dX6_kindOf_10 rfl ?_
    refine j_bipush F.1 (45) dX6_kindOf_11 (by decide) ?_
    refine j_icmp_ne F.1 20 dX6_kindOf_13 (by decide) (fun h13 => ?_) (fun h13 => ?_)
    · refine j_iload_n F.1 dX6_kindOf_20 rfl ?_
      refine j_bipush F.1 (42) dX6_kindOf_21 (by decide) ?_
      refine j_icmp_ne F.1 30 dX6_kindOf_23 (by decide) (fun h23 => ?_) (fun h23 => ?_)
      · refine j_iload_n F.1 dX6_kindOf_30 rfl ?_
        refine j_bipush F.1 (94) dX6_kindOf_31 (by decide) ?_
        refine j_icmp_ne F.1 40 dX6_kindOf_33 (by decide) (fun h33 => ?_) (fun h33 => ?_)
        · refine j_iload_n F.1 dX6_kindOf_40 rfl ?_
          refine j_bipush F.1 (63) dX6_kindOf_41 (by decide) ?_
          refine j_icmp_ne F.1 50 dX6_kindOf_43 (by decide) (fun h43 => ?_) (fun h43 => ?_)
          · refine j_iconst F.1 (0) dX6_kindOf_50 (by decide) ?_
            exact j_iret F dX6_kindOf_51 ((rIe (by unfold kf; simp only [*, if_true, if_false]; try rfl) rfl))
          · refine j_iconst F.1 (5) dX6_kindOf_46 (by decide) ?_
            refine j_goto F.1 51 dX6_kindOf_47 (by decide) ?_
            exact j_iret F dX6_kindOf_51 ((rIe (by unfold kf; simp only [*, if_true, if_false]; try rfl) rfl))
        · refine j_iconst F.1 (4) dX6_kindOf_36 (by decide) ?_
          refine j_goto F.1 51 dX6_kindOf_37 (by decide) ?_
          exact j_iret F dX6_kindOf_51 ((rIe (by unfold kf; simp only [*, if_true, if_false]; try rfl) rfl))
      · refine j_iconst F.1 (3) dX6_kindOf_26 (by decide) ?_
        refine j_goto F.1 51 dX6_kindOf_27 (by decide) ?_
        exact j_iret F dX6_kindOf_51 ((rIe (by unfold kf; simp only [*, if_true, if_false]; try rfl) rfl))
    · refine j_iconst F.1 (2) dX6_kindOf_16 (by decide) ?_
      refine j_goto F.1 51 dX6_kindOf_17 (by decide) ?_
      exact j_iret F dX6_kindOf_51 ((rIe (by unfold kf; simp only [*, if_true, if_false]; try rfl) rfl))
  · refine j_iconst F.1 (1) dX6_kindOf_6 (by decide) ?_
    refine j_goto F.1 51 dX6_kindOf_7 (by decide) ?_
    exact j_iret F dX6_kindOf_51 ((rIe (by unfold kf; simp only [*, if_true, if_false]; try rfl) rfl))
