/-! Definitions keep the state well formed. -/
def DV (a b c d e : Int32) : Prop :=
  (a = 0 ∧ (-99999 ≤ b.toInt ∧ b.toInt ≤ 99999) ∧ c = 0 ∧ d = 0 ∧ e = 0) ∨ ((∃ fo : Nat, 1 ≤ fo ∧ fo ≤ 5 ∧ a = nI fo) ∧ b = 0 ∧ okC c ∧ okC d ∧ okC e ∧ (¬ a = 5 → e = 0))
theorem def1_o {f : Nat → Int32} {i k j : Nat} {a b c d e : Int32} (h : k ≠ i) (hj : j < 15) : A_def1 f i a b c d e (ix k j) = f (ix k j) := by
  unfold A_def1
  rw [pk_un (ix_o h hj (by decide)), pk_un (ix_o h hj (by decide)), pk_un (ix_o h hj (by decide)), pk_un (ix_o h hj (by decide)), pk_un (ix_o h hj (by decide)), pk_un (ix_o h hj (by decide))]
  unfold zr
  rw [if_neg (by unfold ix; omega), pk_un (ix_g (by decide))]
theorem def1_6 {f : Nat → Int32} {i j : Nat} {a b c d e : Int32} (h : 6 ≤ j) (hj : j < 15) : A_def1 f i a b c d e (ix i j) = 0 := by
  unfold A_def1
  rw [pk_un (ix_j (by omega)), pk_un (ix_j (by omega)), pk_un (ix_j (by omega)), pk_un (ix_j (by omega)), pk_un (ix_j (by omega)), pk_un (ix_j (by omega))]
  unfold zr
  rw [if_pos (by unfold ix; omega)]
theorem def1_0 {f : Nat → Int32} {i : Nat} {a b c d e : Int32} : A_def1 f i a b c d e (ix i 0) = a := by
  unfold A_def1
  rw [pk_un (ix_j (by decide)), pk_un (ix_j (by decide)), pk_un (ix_j (by decide)), pk_un (ix_j (by decide)), pk_un (ix_j (by decide)), pk_us]
theorem def1_1 {f : Nat → Int32} {i : Nat} {a b c d e : Int32} : A_def1 f i a b c d e (ix i 1) = b := by
  unfold A_def1
  rw [pk_un (ix_j (by decide)), pk_un (ix_j (by decide)), pk_un (ix_j (by decide)), pk_un (ix_j (by decide)), pk_us]
theorem def1_2 {f : Nat → Int32} {i : Nat} {a b c d e : Int32} : A_def1 f i a b c d e (ix i 2) = c := by
  unfold A_def1
  rw [pk_un (ix_j (by decide)), pk_un (ix_j (by decide)), pk_un (ix_j (by decide)), pk_us]
theorem def1_3 {f : Nat → Int32} {i : Nat} {a b c d e : Int32} : A_def1 f i a b c d e (ix i 3) = d := by
  unfold A_def1
  rw [pk_un (ix_j (by decide)), pk_un (ix_j (by decide)), pk_us]
theorem def1_4 {f : Nat → Int32} {i : Nat} {a b c d e : Int32} : A_def1 f i a b c d e (ix i 4) = e := by
  unfold A_def1
  rw [pk_un (ix_j (by decide)), pk_us]
theorem def1_5 {f : Nat → Int32} {i : Nat} {a b c d e : Int32} : A_def1 f i a b c d e (ix i 5) = f 0 + 1 := by
  unfold A_def1
  rw [pk_us]
theorem def1_g {f : Nat → Int32} {i k : Nat} {a b c d e : Int32} (hk : k < 8) : A_def1 f i a b c d e k = upd f 0 (f 0 + 1) k := by
  unfold A_def1
  rw [pk_un (ix_h hk), pk_un (ix_h hk), pk_un (ix_h hk), pk_un (ix_h hk), pk_un (ix_h hk), pk_un (ix_h hk)]
  unfold zr
  rw [if_neg (by unfold ix; omega)]
theorem inc_toInt {x : Int32} (h0 : 0 ≤ x.toInt) (h : x.toInt < 2 ^ 31 - 1) : (x + 1).toInt = x.toInt + 1 := by
  obtain ⟨j, hj, e⟩ := nI_of (x := x) (fun z => by have := Int32.lt_iff_toInt_lt.mp z; rw [Int32.toInt_zero] at this; omega)
  subst e
  rw [nI_toInt hj] at h
  rw [nI_1, nI_toInt (by omega), nI_toInt hj]
  omega
theorem A_def_wf {f : Nat → Int32} {i : Nat} {a b c d e : Int32} (w : WF f) (hi : i < 10) (hd : DV a b c d e) (hr : (f 0).toInt < 2 ^ 31 - 1) : WF (A_def f i a b c d e) ∧ (A_def f i a b c d e 0).toInt ≤ (f 0).toInt + 1 ∧ (f 0).toInt ≤ (A_def f i a b c d e 0).toInt := by
  unfold A_def
  split
  · exact ⟨w, by omega, by omega⟩
  · have e0 : A_def1 f i a b c d e 0 = f 0 + 1 := by rw [def1_g (by decide), pk_us]
    have ei := inc_toInt w.2.1 hr
    refine ⟨⟨fun k hk => ?_, by rw [e0, ei]; have := w.2.1; omega, by rw [def1_g (by decide), pk_un (by decide)]; exact w.2.2⟩, by rw [e0, ei]; omega, by rw [e0, ei]; omega⟩
    by_cases ek : k = i
    · subst ek
      unfold wfCell
      rw [def1_0, def1_1, def1_2, def1_3, def1_4, def1_5, def1_6 (by decide) (by decide)]
      have hz : (0 : Int32) = 0 ∨ (0 : Int32) = 1 := Or.inl rfl
      rcases hd with ⟨rfl, hb, rfl, rfl, rfl⟩ | ⟨⟨fo, h1, h5, rfl⟩, rfl, hc, hd, he, h6⟩
      · exact ⟨⟨0, by decide, rfl⟩, fun _ => ⟨hb.1, hb.2, rfl, rfl, rfl, by rw [ei]; have := w.2.1; omega, rfl⟩, fun z => absurd rfl z, hz, fun z => absurd z (by decide)⟩
      · exact ⟨⟨fo, h5, rfl⟩, fun z => absurd z (nI_ne0 h1 (by omega)), fun _ => ⟨rfl, hc, hd, he, h6⟩, hz, fun z => absurd z (by decide)⟩
    · exact wfCell_same (fun j hj _ => def1_o ek (by omega)) (w.1 k hk)
theorem dig_nI {c : Int32} (h : digB c = true) : ∃ d, d < 10 ∧ c = nI (48 + d) := by
  have h2 := of_decide_eq_true h
  have a := Int32.le_iff_toInt_le.mp h2.1
  obtain ⟨j, hj, e⟩ := nI_of2 (x := c) (n := 57) (M := 57) rfl (fun z => by have := Int32.lt_iff_toInt_lt.mp z; rw [Int32.toInt_zero] at this; have e1 : (48 : Int32).toInt = 48 := by decide
                                                                            omega) h2.2
  subst e
  have e1 : (48 : Int32).toInt = 48 := by decide
  rw [e1, nI_toInt (by omega)] at a
  exact ⟨j - 48, by omega, by rw [show 48 + (j - 48) = j by omega]⟩
theorem dg_nI {tx : Nat → Int32} {ln : Nat} : ∀ (k p m : Nat), (m + 1) * 10 ^ k ≤ 100000 → ∃ m', m' < (m + 1) * 10 ^ k ∧ (dg tx ln k p (nI m)).2 = nI m'
  | 0, p, m, h => ⟨m, by omega, rfl⟩
  | k + 1, p, m, h => by
    rw [dg_s]
    by_cases hd : digB (chr tx ln p) = true
    · rw [if_pos hd]
      obtain ⟨d, hd10, e⟩ := dig_nI hd
      have hpw : (m + 1) * 10 ^ (k + 1) = (m + 1) * 10 * 10 ^ k := by rw [Nat.pow_succ]; rw [Nat.mul_assoc, Nat.mul_comm 10]
      have hle : (10 * m + d + 1) * 10 ^ k ≤ (m + 1) * 10 * 10 ^ k := Nat.mul_le_mul_right _ (by omega)
      rw [e, show (10 : Int32) * nI m + nI (48 + d) - 48 = nI (10 * m + d) from by
        show nI 10 * nI m + nI (48 + d) - nI 48 = _
        rw [pk_mul, nI_add, pk_sub (by omega)]
        congr 1
        omega]
      obtain ⟨m', h1, h2⟩ := dg_nI (tx := tx) (ln := ln) k (p + 1) (10 * m + d) (by omega)
      exact ⟨m', by omega, h2⟩
    · rw [if_neg hd]
      refine ⟨m, ?_, rfl⟩
      have : 1 ≤ 10 ^ (k + 1) := Nat.one_le_pow _ _ (by decide)
      calc m < m + 1 := Nat.lt_succ_self _
        _ = (m + 1) * 1 := (Nat.mul_one _).symm
        _ ≤ (m + 1) * 10 ^ (k + 1) := Nat.mul_le_mul_left _ this
theorem let_okC {c : Int32} (h : letB c = true) : okC (c - 97) := by
  have h2 := of_decide_eq_true h
  have a := Int32.le_iff_toInt_le.mp h2.1
  have e1 : (97 : Int32).toInt = 97 := by decide
  obtain ⟨j, hj, e⟩ := nI_of2 (x := c) (n := 106) (M := 106) rfl (fun z => by have := Int32.lt_iff_toInt_lt.mp z; rw [Int32.toInt_zero] at this; omega) h2.2
  subst e
  rw [e1, nI_toInt (by omega)] at a
  refine ⟨j - 97, by omega, ?_⟩
  show nI j - nI 97 = _
  rw [pk_sub (by omega)]
theorem kf_5 {c : Int32} (h : ¬ kf c = 0) : ∃ fo : Nat, 1 ≤ fo ∧ fo ≤ 5 ∧ kf c = nI fo := by
  unfold kf at h ⊢
  split
  · exact ⟨1, by decide, by decide, rfl⟩
  · split
    · exact ⟨2, by decide, by decide, rfl⟩
    · split
      · exact ⟨3, by decide, by decide, rfl⟩
      · split
        · exact ⟨4, by decide, by decide, rfl⟩
        · split
          · exact ⟨5, by decide, by decide, rfl⟩
          · rename_i a b c d e
            rw [if_neg a, if_neg b, if_neg c, if_neg d, if_neg e] at h
            exact absurd rfl h
theorem okC0 : okC 0 := ⟨0, by decide, rfl⟩
theorem PN_DV {tx : Nat → Int32} {ln p q : Nat} {d : D5} (h : PN tx ln p = (q, some d)) : DV d.1 d.2.1 d.2.2.1 d.2.2.2.1 d.2.2.2.2 := by
  unfold PN at h
  split at h
  · split at h
    · cases h
      obtain ⟨m, hm, e⟩ := dg_nI (tx := tx) (ln := ln) 5 (p + 1) 0 (by decide)
      rw [show nI 0 = (0 : Int32) from rfl] at e
      dsimp only
      rw [e]
      refine Or.inl ⟨rfl, ?_, rfl, rfl, rfl⟩
      rw [sb_negT (by omega)]
      omega
    · cases h
  · split at h
    · cases h
      obtain ⟨m, hm, e⟩ := dg_nI (tx := tx) (ln := ln) 5 p 0 (by decide)
      rw [show nI 0 = (0 : Int32) from rfl] at e
      dsimp only
      rw [e]
      refine Or.inl ⟨rfl, ?_, rfl, rfl, rfl⟩
      rw [nI_toInt (by omega)]
      omega
    · cases h
theorem PF_DV {tx : Nat → Int32} {ln p q : Nat} {x : Int32} {d : D5} (hx : letB x = true) (h : PF tx ln p x = (q, some d)) : DV d.1 d.2.1 d.2.2.1 d.2.2.2.1 d.2.2.2.2 := by
  unfold PF at h
  split at h
  · cases h
  · rename_i hk
    split at h
    · cases h
    · rename_i h1
      have h1t : letB (chr tx ln (p + 1)) = true := by
        cases e : letB (chr tx ln (p + 1)) with
        | true => rfl
        | false => exact absurd e h1
      split at h
      · rename_i h5
        split at h
        · split at h
          · cases h
          · rename_i h3
            have h3t : letB (chr tx ln (p + 3)) = true := by
              cases e : letB (chr tx ln (p + 3)) with
              | true => rfl
              | false => exact absurd e h3
            cases h
            exact Or.inr ⟨⟨5, by decide, by decide, rfl⟩, rfl, let_okC hx, let_okC h1t, let_okC h3t, fun z => absurd rfl z⟩
        · cases h
      · cases h
        exact Or.inr ⟨kf_5 hk, rfl, let_okC hx, let_okC h1t, okC0, fun _ => rfl⟩
theorem PR_DV {tx : Nat → Int32} {ln p q : Nat} {d : Int32 × D5} (h : PR tx ln p = (q, some d)) : okC d.1 ∧ DV d.2.1 d.2.2.1 d.2.2.2.1 d.2.2.2.2.1 d.2.2.2.2.2 := by
  unfold PR at h
  split at h
  · cases h
  · rename_i hl
    have hlt : letB (chr tx ln p) = true := by
      cases e : letB (chr tx ln p) with
      | true => rfl
      | false => exact absurd e hl
    split at h
    · cases hpb : PB tx ln (p + 2) with
      | mk q' od =>
        rw [hpb] at h
        cases od with
        | none => cases h
        | some d' =>
          dsimp only at h
          split at h
          · cases h
            refine ⟨let_okC hlt, ?_⟩
            unfold PB at hpb
            split at hpb
            · rename_i hl2
              exact PF_DV hl2 hpb
            · exact PN_DV hpb
          · cases h
    · cases h
/-- all definitions of the text from p on, made -/
def A_play (tx : Nat → Int32) (ln : Nat) : Nat → (Nat → Int32) → Nat → (Nat → Int32)
  | 0, f, _ => f
  | n + 1, f, p => if p < ln then (match PR tx ln p with | (_, none) => f | (q, some d) => A_play tx ln n (A_def f (cN d.1) d.2.1 d.2.2.1 d.2.2.2.1 d.2.2.2.2.1 d.2.2.2.2.2) q) else f
theorem play_s {tx : Nat → Int32} {ln n p : Nat} {f : Nat → Int32} : A_play tx ln (n + 1) f p = if p < ln then (match PR tx ln p with | (_, none) => f | (q, some d) => A_play tx ln n (A_def f (cN d.1) d.2.1 d.2.2.1 d.2.2.2.1 d.2.2.2.2.1 d.2.2.2.2.2) q) else f := rfl
theorem play_wf {tx : Nat → Int32} {ln : Nat} : ∀ (n p : Nat) (f : Nat → Int32), WF f → (f 0).toInt + n < 2 ^ 31 - 1 → WF (A_play tx ln n f p) ∧ (A_play tx ln n f p 0).toInt ≤ (f 0).toInt + n ∧ (f 0).toInt ≤ (A_play tx ln n f p 0).toInt
  | 0, p, f, w, h => ⟨w, by show (f 0).toInt ≤ _; omega, Int.le_refl _⟩
  | n + 1, p, f, w, h => by
    rw [play_s]
    split
    · cases ep : PR tx ln p with
      | mk q od =>
        cases od with
        | none => exact ⟨w, by show (f 0).toInt ≤ _; omega, Int.le_refl _⟩
        | some d =>
          obtain ⟨h1, h2⟩ := PR_DV ep
          have h3 := cN_ok h1
          obtain ⟨w2, b2, b3⟩ := A_def_wf (f := f) w h3.1 h2 (by omega)
          obtain ⟨w3, b4, b5⟩ := play_wf (tx := tx) (ln := ln) n q _ w2 (by omega)
          exact ⟨w3, by dsimp only; omega, by dsimp only; omega⟩
    · exact ⟨w, by omega, Int.le_refl _⟩
