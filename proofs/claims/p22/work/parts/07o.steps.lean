/-! What each step keeps. -/
/-- definitions by revision, with a newest row -/
def Dn (D : Dh) (g : Nat → Int32) (v : Int) : Dh := fun r => if r ≤ v then D r else g
theorem Sv.def1 {D : Dh} {f : Nat → Int32} {i : Nat} {a b c d e : Int32} (s : Sv D f) (hw : WF f) (hr : (f 0).toInt < 2 ^ 31 - 1) : Sv (Dn D (A_def1 f i a b c d e) (f 0).toInt) (A_def1 f i a b c d e) := by
  have e0 : A_def1 f i a b c d e 0 = f 0 + 1 := by rw [def1_g (by decide), pk_us]
  have ei := inc_toInt hw.2.1 hr
  generalize hg : A_def1 f i a b c d e = g at e0 ⊢
  have ho : ∀ k j, k ≠ i → j < 15 → g (ix k j) = f (ix k j) := fun k j hk hj => by rw [← hg]; exact def1_o hk hj
  have h6 : g (ix i 6) = 0 := by rw [← hg]; exact def1_6 (by decide) (by decide)
  have h5 : g (ix i 5) = f 0 + 1 := by rw [← hg]; exact def1_5
  have new : ∀ k, SameD (Dn D g (f 0).toInt ((f 0).toInt + 1)) g k := fun k j _ => by unfold Dn; rw [if_neg (by omega)]
  have old : ∀ r, r ≤ (f 0).toInt → Dn D g (f 0).toInt r = D r := fun r h => if_pos h
  have bn : ∀ u r, r ≤ (f 0).toInt → Bn D f u r → Bn (Dn D g (f 0).toInt) g u r := fun u r hr b z6 z8 => by
    by_cases hu : u = i
    · subst hu
      rw [h6] at z6
      exact absurd z6 (by decide)
    · rw [ho u 6 hu (by decide)] at z6
      rw [ho u 8 hu (by decide)] at z8
      rw [ho u 7 hu (by decide), old r hr]
      exact b z6 z8
  refine ⟨fun k hk => ?_, fun k hk z6 => ?_⟩
  · by_cases hki : k = i
    · subst hki
      unfold Dc
      rw [h5, e0]
      refine ⟨Int.le_refl _, fun r h1 h2 => ?_⟩
      rw [show r = (f 0).toInt + 1 by omega]
      exact new k
    · obtain ⟨p, q⟩ := s.1 k hk
      unfold Dc
      rw [ho k 5 hki (by decide), e0, ei]
      refine ⟨by omega, fun r h1 h2 => ?_⟩
      by_cases hrr : r ≤ (f 0).toInt
      · rw [old r hrr]
        intro j hj
        rw [ho k j hki (by omega)]
        exact q r h1 hrr j hj
      · rw [show r = (f 0).toInt + 1 by omega]
        exact new k
  · by_cases hki : k = i
    · subst hki
      rw [h6] at z6
      exact absurd z6 (by decide)
    · rw [ho k 6 hki (by decide)] at z6
      obtain ⟨r1, r2, r3, s1, s2, x, s3, s4⟩ := s.2 k hk z6
      have en : A_nxt g k x = A_nxt f k x := nxt_f (fun j hj => ho k j hki (by omega))
      rw [ho k 5 hki (by decide), ho k 8 hki (by decide), ho k 9 hki (by decide), e0, ei]
      refine ⟨r1, r2, by omega, ?_⟩
      unfold Sem
      rw [old _ r3, ho k 7 hki (by decide), ho k 2 hki (by decide), ho k 10 hki (by decide), ho k 0 hki (by decide), ho k 12 hki (by decide)]
      refine ⟨s1, bn _ _ r3 s2, x, s3, ?_⟩
      rw [en]
      rcases s4 with q | ⟨q1, q2, q3, q4⟩
      · exact Or.inl q
      · exact Or.inr ⟨q1, q2, q3, bn _ _ r3 q4⟩
/-- fewer remembered answers, the same places -/
theorem Ct.less {b : Int} {f g : Nat → Int32} (a : Ct b f) (h7 : g 7 = f 7) (h6 : g 6 = f 6) (h1 : g 1 = f 1) (h : ∀ i, i < 10 → g (ix i 6) = 1 → f (ix i 6) = 1 ∧ g (ix i 13) = f (ix i 13)) : Ct b g := by
  obtain ⟨a1, a2, a3, a4, a5, a6, a7⟩ := a
  unfold Ct
  rw [h7, h6, h1]
  refine ⟨a1, a2, a3, a4, a5, fun i hi z => ?_, fun i j hi hj hij z w => ?_⟩
  · obtain ⟨p, q⟩ := h i hi z
    rw [q]
    exact a6 i hi p
  · obtain ⟨p, q⟩ := h i hi z
    obtain ⟨p2, q2⟩ := h j hj w
    rw [q, q2]
    exact a7 i j hi hj hij p p2
theorem inv_def {f : Nat → Int32} {i : Nat} {a b c d e : Int32} {B : Int} (h : INV f B) (hB : B < 2 ^ 31 - 1) (hi : i < 10) (hd : DV a b c d e) : INV (A_def f i a b c d e) (B + 1) := by
  obtain ⟨h1, ⟨D, h2⟩, h3, h4, h5⟩ := h
  obtain ⟨w, w1, -⟩ := A_def_wf h1 hi hd (by omega)
  refine ⟨w, ?_, ?_, ?_, by omega⟩
  · unfold A_def
    split
    · exact ⟨D, h2⟩
    · exact ⟨_, h2.def1 h1 (by omega)⟩
  · unfold A_def
    split
    · exact h3.up (by omega)
    · refine (h3.less (by rw [def1_g (by decide), pk_un (by decide)]) (by rw [def1_g (by decide), pk_un (by decide)]) (by rw [def1_g (by decide), pk_un (by decide)]) (fun k hk z => ?_)).up (by omega)
      by_cases ek : k = i
      · subst ek
        rw [def1_6 (by decide) (by decide)] at z
        exact absurd z (by decide)
      · rw [def1_o ek (by decide)] at z
        exact ⟨z, def1_o ek (by decide)⟩
  · unfold A_def
    split
    · exact h4
    · rw [def1_g (by decide), pk_un (by decide)]; exact h4
theorem inv_drop {f : Nat → Int32} {c : Nat} {B : Int} (h : INV f B) : INV (A_drop f c) B := by
  obtain ⟨h1, ⟨D, h2⟩, h3, h4, h5⟩ := h
  have d0 : A_drop f c 0 = f 0 := drop_g (by decide) (by decide)
  have g5 : ∀ k j, j < 6 → A_drop f c (ix k j) = f (ix k j) := fun k j hj => by
    by_cases e : k = c
    · subst e; exact drop_d hj
    · exact drop_c e (by omega)
  have bn : ∀ u r, Bn D f u r → Bn D (A_drop f c) u r := fun u r b z6 z8 => by
    by_cases hu : u = c
    · subst hu
      rw [drop_6 (by decide) (by decide)] at z6
      exact absurd z6 (by decide)
    · rw [drop_c hu (by decide)] at z6 z8 ⊢
      exact b z6 z8
  refine ⟨drop_wf h1, ⟨D, fun k hk => ?_, fun k hk z6 => ?_⟩, h3.less (drop_g (by decide) (by decide)) (drop_g (by decide) (by decide)) (drop_g (by decide) (by decide)) (fun k hk z => ?_), by rw [drop_g (by decide) (by decide)]; exact h4, by rw [d0]; exact h5⟩
  · obtain ⟨p, q⟩ := h2.1 k hk
    unfold Dc
    rw [g5 k 5 (by decide), d0]
    exact ⟨p, fun r r1 r2 j hj => by rw [g5 k j (by omega)]; exact q r r1 r2 j hj⟩
  · by_cases hk2 : k = c
    · subst hk2
      rw [drop_6 (by decide) (by decide)] at z6
      exact absurd z6 (by decide)
    · rw [drop_c hk2 (by decide)] at z6
      obtain ⟨r1, r2, r3, r4⟩ := h2.2 k hk z6
      rw [drop_c hk2 (by decide), drop_c hk2 (by decide), drop_c hk2 (by decide), d0]
      exact ⟨r1, r2, r3, r4.frame (fun u b => bn u _ b) (fun j hj _ => drop_c hk2 (by omega))⟩
  · by_cases hk2 : k = c
    · subst hk2
      rw [drop_6 (by decide) (by decide)] at z
      exact absurd z (by decide)
    · rw [drop_c hk2 (by decide)] at z
      exact ⟨z, drop_c hk2 (by decide)⟩
theorem inv_trim : ∀ (m : Nat) (f : Nat → Int32) (B : Int), INV f B → INV (A_trim m f) B := by
  intro m
  induction m with
  | zero => intro f B h; exact h
  | succ m ih =>
    intro f B h
    rw [A_trim_s]
    split
    · exact ih _ _ (inv_drop h)
    · exact h
theorem h01 {f : Nat → Int32} (w : WF f) : ∀ i, i < 10 → f (ix i 6) = 0 ∨ f (ix i 6) = 1 := fun i hi => (w.1 i hi).2.2.2.1
/-- behind a trim there are not more answers than the bound -/
theorem trim_le : ∀ (m : Nat) (f : Nat → Int32), WF f → (f 5).toInt ≤ 10 → (cntH f 10 : Int) ≤ m + (f 5).toInt → A_trim m f 5 = f 5 ∧ ¬ A_trim m f 5 < remI (A_trim m f) 10 := by
  intro m
  induction m with
  | zero =>
    intro f w h10 hc
    refine ⟨rfl, fun z => ?_⟩
    have z : f 5 < remI f 10 := z
    rw [remI_cnt (h01 w) 10 (by decide), Int32.lt_iff_toInt_lt, nI_toInt (by have := cntH_le (f := f) 10; omega)] at z
    omega
  | succ m ih =>
    intro f w h10 hc
    rw [A_trim_s]
    by_cases h : f 5 < remI f 10
    · rw [if_pos h]
      have w5 := w.2.2
      have hn : 0 < cntH f 10 := by
        rw [remI_cnt (h01 w) 10 (by decide), Int32.lt_iff_toInt_lt, nI_toInt (by have := cntH_le (f := f) 10; omega)] at h
        omega
      obtain ⟨-, j, hj, ej, e6⟩ := (old_spec (f := f) 10 (by decide)).resolve_left (fun z => by omega)
      have d5 : A_drop f (cN (old f 10)) 5 = f 5 := drop_g (by decide) (by decide)
      have dc := drop_cnt (f := f) (c := cN (old f 10)) 10
      rw [ej, cN_nI hj, if_pos ⟨hj, e6⟩] at dc
      have q := ih (A_drop f (cN (old f 10))) (drop_wf w) (by rw [d5]; exact h10) (by rw [d5, ej, cN_nI hj]; omega)
      exact ⟨q.1.trans d5, q.2⟩
    · rw [if_neg h]
      exact ⟨rfl, h⟩
theorem inv_look {f g : Nat → Int32} {c : Nat} {B : Int} (h : INV f B) (hc : c < 10) (hB : B + Ub 11 < 2 ^ 31 - 1) (e : A_look 11 [] f c = some g) : INV g (B + Ub 11) := by
  obtain ⟨h1, ⟨D, h2⟩, h3, h4, h5⟩ := h
  have hu := Ub_nn 11
  obtain ⟨G, -⟩ := A_look_good 11 _ _ _ _ hc (pre_0 h1) e
  obtain ⟨s, -⟩ := A_look_right 11 _ _ _ _ hc (pre_0 h1) h2 e
  have ct := A_look_ct 11 _ _ _ _ B hc (pre_0 h1) h3 hB e
  exact ⟨G.2.2.2.2.2.2 h1, ⟨D, s⟩, ct, by rw [G.2.2.1]; exact h4, by rw [G.1]; omega⟩
theorem inv_bound {f : Nat → Int32} {x : Int32} {B : Int} (h : INV f B) (hx : 0 ≤ x ∧ x ≤ 10) : INV (upd f 5 x) B := by
  obtain ⟨h1, ⟨D, h2⟩, h3, h4, h5⟩ := h
  have ec : ∀ i, i < 10 → ∀ j, j < 15 → upd f 5 x (ix i j) = f (ix i j) := fun i hi j hj => pk_un (ix_g (by decide))
  have l0 := Int32.le_iff_toInt_le.mp hx.1
  have l1 := Int32.le_iff_toInt_le.mp hx.2
  have w : WF (upd f 5 x) := ⟨fun i hi => wfCell_same (fun j hj _ => ec i hi j (by omega)) (h1.1 i hi), by rw [pk_un (by decide)]; exact h1.2.1, by rw [pk_us]; exact l0⟩
  refine ⟨w, ⟨D, h2.cong h1 (pk_un (by decide)) ec⟩, h3.less (pk_un (by decide)) (pk_un (by decide)) (pk_un (by decide)) (fun i hi z => ?_), by rw [pk_us]; exact l1, by rw [pk_un (by decide)]; exact h5⟩
  rw [ec i hi 6 (by decide)] at z
  exact ⟨z, ec i hi 13 (by decide)⟩
theorem inv_play {tx : Nat → Int32} {ln : Nat} : ∀ (n p : Nat) (f : Nat → Int32) (B : Int), INV f B → B + n < 2 ^ 31 - 1 → INV (A_play tx ln n f p) (B + n) := by
  intro n
  induction n with
  | zero => intro p f B h _; exact h.up (by omega)
  | succ n ih =>
    intro p f B h hB
    rw [play_s]
    split
    · cases e : PR tx ln p with
      | mk q o =>
        cases o with
        | none => exact h.up (by omega)
        | some d =>
          obtain ⟨d1, d2⟩ := PR_DV e
          dsimp only
          exact (ih q _ (B + 1) (inv_def h (by omega) (cN_ok d1).1 d2) (by omega)).up (by omega)
    · exact h.up (by omega)
theorem inv_0 : INV f00 0 := by
  refine ⟨WF0, ⟨fun _ => f00, fun i hi => ⟨by rw [f00_ix]; decide, fun r _ _ j _ => rfl⟩, fun i hi z => ?_⟩, ⟨by decide, by decide, by decide, by decide, by decide, fun i hi z => ?_, fun i j hi hj hij z => ?_⟩, by decide, by decide⟩
  · rw [f00_ix] at z; exact absurd z (by decide)
  · rw [f00_ix] at z; exact absurd z (by decide)
  · rw [f00_ix] at z; exact absurd z (by decide)
