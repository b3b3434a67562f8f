/-! The reference's loop works a cell out afresh. -/
def WD (f : Nat → Int32) : Prop := ∀ i, i < 10 → (∃ fo : Nat, fo ≤ 5 ∧ f (ix i 0) = nI fo) ∧ (¬ f (ix i 0) = 0 → okC (f (ix i 2)) ∧ okC (f (ix i 3)) ∧ okC (f (ix i 4)))
theorem WF.wd {f : Nat → Int32} (h : WF f) : WD f := fun i hi => ⟨(h.1 i hi).1, fun z => let q := (h.1 i hi).2.2.1 z; ⟨q.2.1, q.2.2.1, q.2.2.2.1⟩⟩
theorem WD.nxt {f : Nat → Int32} (w : WD f) {c : Nat} {a : Int32} (hc : c < 10) (h0 : ¬ f (ix c 0) = 0) : okC (A_nxt f c a) := by
  have q := (w c hc).2 h0
  unfold A_nxt
  split
  · exact q.2.2
  · exact q.2.1
theorem WD.pos {f : Nat → Int32} (w : WD f) {c : Nat} (hc : c < 10) (h0 : ¬ f (ix c 0) = 0) : 0 < f (ix c 0) := by
  obtain ⟨fo, h5, e⟩ := (w c hc).1
  rw [e] at h0 ⊢
  have : fo ≠ 0 := fun z => h0 (by rw [z]; rfl)
  exact nI_lt (a := 0) (by omega) (by omega)
def FrA (v w : rcM) : Prop := (∀ id, id ≠ 0 → id ≠ 5 → id ≠ 9 → id ≠ 10 → id ≠ 11 → w id = v id) ∧ ∀ j, j ≠ 10 → w 0 j = v 0 j
theorem FrA.rf {v : rcM} : FrA v v := ⟨fun _ _ _ _ _ _ => rfl, fun _ _ => rfl⟩
theorem FrA.tr {u v w : rcM} (a : FrA u v) (b : FrA v w) : FrA u w := ⟨fun id h0 h5 h9 h10 h11 => (b.1 id h0 h5 h9 h10 h11).trans (a.1 id h0 h5 h9 h10 h11), fun j h => (b.2 j h).trans (a.2 j h)⟩
def DCh (f : Nat → Int32) : List Nat → Prop
  | [] => True
  | c :: O => (∀ o, o ∈ O → Desc f o c) ∧ DCh f O
/-- the loop's state: the open cells, the settled ones -/
def AI (f : Nat → Int32) (v : rcM) (O : List Nat) : Prop :=
  v 1 = f ∧ v 0 10 = nI O.length ∧ Stk5 (v 5) O ∧ OkO O ∧ DCh f O ∧ (∀ i, i ∈ O → v 9 i = 1) ∧ ∀ i, i < 10 → i ∉ O → v 9 i = 0 ∨ (v 9 i = 2 ∧ ∃ m, ev m f i = some (v 10 i, v 11 i))
def M_apush (v : rcM) (d dp : Nat) : rcM := rcu (rcu (rcu v 9 d 1) 5 dp (nI d)) 0 10 (nI (dp + 1))
def HA (K : Option Value → rcM → Prop) (H : rcM → Prop) : Prop :=
  (∀ v tp c, c < 10 → tp < 10 → v 5 tp = nI c → v 0 10 = nI (tp + 1) → v 1 (ix c 0) = 0 → H (rcu (M_settle v c 0 0) 0 10 (nI tp)) → H v) ∧
  (∀ v tp c x y z, c < 10 → tp < 10 → v 5 tp = nI c → v 0 10 = nI (tp + 1) → 0 < v 1 (ix c 0) → v 1 (ix c 2) = nI x → x < 10 → A_nxt (v 1) c (v 10 x) = nI y → y < 10 → M_want v c x y = -1 → x ≠ c → z < 10 → z ≠ c → nI z = (if v 1 (ix c 0) = 5 ∧ v 10 x = 2000000000 then nI x else A_nxt (v 1) c (v 10 x)) → H (rcu (M_settle v c x z) 0 10 (nI tp)) → H v) ∧
  (∀ v tp c x y d, c < 10 → tp < 10 → v 5 tp = nI c → v 0 10 = nI (tp + 1) → ¬ v 1 (ix c 0) = 0 → v 1 (ix c 2) = nI x → x < 10 → A_nxt (v 1) c (v 10 x) = nI y → y < 10 → M_want v c x y = nI d → d < 10 → v 9 d = 1 → K (some (.int 0)) v → H v) ∧
  (∀ v tp c x y d, c < 10 → tp < 10 → v 5 tp = nI c → v 0 10 = nI (tp + 1) → ¬ v 1 (ix c 0) = 0 → v 1 (ix c 2) = nI x → x < 10 → A_nxt (v 1) c (v 10 x) = nI y → y < 10 → M_want v c x y = nI d → d < 10 → ¬ v 9 d = 1 → tp + 1 < 10 → H (M_apush v d (tp + 1)) → H v)
theorem AI.pop {f : Nat → Int32} {v w : rcM} {c m : Nat} {O : List Nat} (h : AI f v (c :: O)) (h1 : w 1 = v 1) (h5 : w 5 = v 5) (hd : w 0 10 = nI O.length) (h9 : ∀ i, w 9 i = if i = c then 2 else v 9 i) (h10 : ∀ i, i ≠ c → w 10 i = v 10 i ∧ w 11 i = v 11 i) (he : ev m f c = some (w 10 c, w 11 c)) : AI f w O := by
  obtain ⟨a1, a2, a3, a4, a5, a6, a7⟩ := h
  have hnd := List.nodup_cons.mp a4.1
  refine ⟨h1.trans a1, hd, by rw [h5]; exact a3.2, ⟨hnd.2, fun o ho => a4.2 o (List.mem_cons_of_mem _ ho)⟩, a5.2, fun i hi => ?_, fun i hi hn => ?_⟩
  · rw [h9, if_neg (fun e : i = c => hnd.1 (e ▸ hi))]
    exact a6 i (List.mem_cons_of_mem _ hi)
  · by_cases e : i = c
    · subst e
      rw [h9, if_pos rfl]
      exact Or.inr ⟨rfl, m, he⟩
    · rw [h9, if_neg e, (h10 i e).1, (h10 i e).2]
      exact a7 i hi (fun q => (List.mem_cons.mp q).elim e hn)
theorem AI.push {f : Nat → Int32} {v : rcM} {c d : Nat} {O : List Nat} (h : AI f v (c :: O)) (hd : d < 10) (hn : d ∉ c :: O) (hD : Desc f c d) : AI f (M_apush v d (O.length + 1)) (d :: c :: O) := by
  obtain ⟨a1, a2, a3, a4, a5, a6, a7⟩ := h
  have e5 : ∀ k, k < O.length + 1 → M_apush v d (O.length + 1) 5 k = v 5 k := fun k hk => by
    unfold M_apush
    rw [rcu_ne (by decide), rcu_k (by omega), rcu_ne (by decide)]
  have e9 : ∀ i, M_apush v d (O.length + 1) 9 i = if i = d then 1 else v 9 i := fun i => by
    unfold M_apush
    rw [rcu_ne (by decide), rcu_ne (by decide)]
    by_cases e : i = d
    · subst e; rw [rcu_self, if_pos rfl]
    · rw [rcu_k e, if_neg e]
  have e10 : M_apush v d (O.length + 1) 10 = v 10 := by unfold M_apush; rw [rcu_ne (by decide), rcu_ne (by decide), rcu_ne (by decide)]
  have e11 : M_apush v d (O.length + 1) 11 = v 11 := by unfold M_apush; rw [rcu_ne (by decide), rcu_ne (by decide), rcu_ne (by decide)]
  refine ⟨?_, ?_, ⟨?_, a3.low e5⟩, a4.cons hd hn, ⟨fun o ho => ?_, a5⟩, fun i hi => ?_, fun i hi hn' => ?_⟩
  · unfold M_apush; rw [rcu_ne (by decide), rcu_ne (by decide), rcu_ne (by decide)]; exact a1
  · unfold M_apush; rw [rcu_self]; rfl
  · unfold M_apush; rw [rcu_ne (by decide)]; exact rcu_self
  · rcases List.mem_cons.mp ho with rfl | ho
    · exact hD
    · exact (a5.1 o ho).tr hD
  · rw [e9]
    rcases List.mem_cons.mp hi with rfl | hi
    · rw [if_pos rfl]
    · rw [if_neg (fun e : i = d => hn (e ▸ hi))]
      exact a6 i hi
  · have hid : i ≠ d := fun e => hn' (e ▸ List.mem_cons_self)
    rw [e9, if_neg hid, e10, e11]
    exact a7 i hi (fun q => hn' (List.mem_cons_of_mem _ q))
theorem apush_Fr {v : rcM} {d dp : Nat} : FrA v (M_apush v d dp) := by
  unfold M_apush
  refine ⟨fun id h0 h5 h9 h10 h11 => ?_, fun j h => ?_⟩
  · rw [rcu_ne h0, rcu_ne h5, rcu_ne h9]
  · rw [rcu_k h, rcu_ne (by decide), rcu_ne (by decide)]
theorem settle_Fr {v : rcM} {c x y tp : Nat} : FrA v (rcu (M_settle v c x y) 0 10 (nI tp)) := by
  refine ⟨fun id h0 h5 h9 h10 h11 => ?_, fun j h => ?_⟩
  · rw [rcu_ne h0]
    unfold M_settle M_set0
    split
    · rw [rcr_n h11, rcr_n h10, rcr_n h9]
    · rw [rcr_n h10, rcr_n h11, rcr_n h9]
  · rw [rcu_k h]
    unfold M_settle M_set0
    split
    · rw [rcr_n (by decide), rcr_n (by decide), rcr_n (by decide)]
    · rw [rcr_n (by decide), rcr_n (by decide), rcr_n (by decide)]
theorem settle_9 {v : rcM} {c x y tp i : Nat} : rcu (M_settle v c x y) 0 10 (nI tp) 9 i = if i = c then 2 else v 9 i := by
  rw [rcu_ne (by decide)]
  unfold M_settle M_set0
  split
  · rw [rcr_n (by decide), rcr_n (by decide), rcr_s]; rfl
  · rw [rcr_n (by decide), rcr_n (by decide), rcr_s]; rfl
theorem settle_o {v : rcM} {c x y tp i : Nat} (h : i ≠ c) : rcu (M_settle v c x y) 0 10 (nI tp) 10 i = v 10 i ∧ rcu (M_settle v c x y) 0 10 (nI tp) 11 i = v 11 i := by
  rw [rcu_ne (by decide), rcu_ne (by decide)]
  unfold M_settle M_set0
  split
  · rw [rcr_n (by decide), rcr_s, rcr_s, pk_un h, pk_un h, pk_un h, pk_un h]; exact ⟨rfl, rfl⟩
  · rw [rcr_s, rcr_n (by decide), rcr_s, pk_un h, pk_un h]; exact ⟨rfl, rfl⟩
theorem settle_1 {v : rcM} {c x y tp : Nat} (h : 0 < v 1 (ix c 0)) : rcu (M_settle v c x y) 0 10 (nI tp) 10 c = A_made (v 1 (ix c 0)) (v 10 x) (v 10 y) ∧ rcu (M_settle v c x y) 0 10 (nI tp) 11 c = v 11 x ||| v 11 y ||| bitI (nI x) ||| bitI (nI y) := by
  rw [rcu_ne (by decide), rcu_ne (by decide)]
  unfold M_settle
  rw [if_pos h, rcr_n (by decide), rcr_s, rcr_s, pk_us, pk_us]
  exact ⟨rfl, rfl⟩
theorem settle_0 {v : rcM} {c x y tp : Nat} (h : v 1 (ix c 0) = 0) : rcu (M_settle v c x y) 0 10 (nI tp) 10 c = v 1 (ix c 1) ∧ rcu (M_settle v c x y) 0 10 (nI tp) 11 c = 0 := by
  rw [rcu_ne (by decide), rcu_ne (by decide)]
  unfold M_settle M_set0
  rw [if_neg (by rw [h]; decide), rcr_s, rcr_n (by decide), rcr_s, pk_us, pk_us]
  exact ⟨rfl, rfl⟩
def VPost (H : rcM → Prop) (f : Nat → Int32) (O : List Nat) (c : Nat) (v : rcM) : Prop := ∀ w, FrA v w → AI f w O → w 9 c = 2 → (∀ i, i ≠ c → v 9 i = 2 → w 9 i = 2) → H w
def VA (K : Option Value → rcM → Prop) (H : rcM → Prop) (f : Nat → Int32) (c0 n : Nat) : Prop := ∀ (O : List Nat) (c : Nat) (v : rcM), AI f v (c :: O) → 10 ≤ n + O.length → c0 ∈ c :: O → (∀ w, FrA v w → Never f c0 → K (some (.int 0)) w) → VPost H f O c v → H v
theorem ring_never {f : Nat → Int32} {v : rcM} {c d c0 : Nat} {O : List Nat} (h : AI f v (c :: O)) (hd : d ∈ c :: O) (hD : Desc f c d) (h0 : c0 ∈ c :: O) : Never f c0 := by
  have hc : Never f c := by
    rcases List.mem_cons.mp hd with rfl | hd
    · exact hD.self
    · exact (hD.tr (h.2.2.2.2.1.1 d hd)).self
  rcases List.mem_cons.mp h0 with rfl | h0
  · exact hc
  · exact (h.2.2.2.2.1.1 c0 h0).never hc
theorem VA_3 {K : Option Value → rcM → Prop} {H : rcM → Prop} (hA : HA K H) {f : Nat → Int32} (hw : WD f) {O : List Nat} {c x y : Nat} {v : rcM} (hI : AI f v (c :: O)) (h0 : ¬ f (ix c 0) = 0) (hx : f (ix c 2) = nI x) (hx10 : x < 10) (hx9 : v 9 x = 2) (hy : A_nxt f c (v 10 x) = nI y) (hy10 : y < 10) (hn5 : ¬ (f (ix c 0) = 5 ∧ v 10 x = 2000000000)) (hy9 : v 9 y = 2) (post : VPost H f O c v) : H v := by
  have hcO := List.nodup_cons.mp hI.2.2.2.1.1
  have hc : c < 10 := hI.2.2.2.1.2 c List.mem_cons_self
  have hlen : O.length < 10 := by have := hI.2.2.2.1.len; simp only [List.length_cons] at this; omega
  have hc9 : v 9 c = 1 := hI.2.2.2.2.2.1 c List.mem_cons_self
  have xc : x ≠ c := fun e => absurd (hx9.symm.trans (e ▸ hc9)) (by decide)
  have yc : y ≠ c := fun e => absurd (hy9.symm.trans (e ▸ hc9)) (by decide)
  have e1 : v 1 = f := hI.1
  have ox : ∀ i, v 9 i = 2 → i < 10 → ∃ m, ev m f i = some (v 10 i, v 11 i) := fun i h2 hi => by
    have hn : i ∉ c :: O := fun q => absurd (h2.symm.trans (hI.2.2.2.2.2.1 i q)) (by decide)
    rcases hI.2.2.2.2.2.2 i hi hn with z | z
    · exact absurd (h2.symm.trans z) (by decide)
    · exact z.2
  obtain ⟨m1, q1⟩ := ox x hx9 hx10
  obtain ⟨m2, q2⟩ := ox y hy9 hy10
  refine hA.2.1 v O.length c x y y hc hlen hI.2.2.1.1 hI.2.1 (by rw [e1]; exact hw.pos hc h0) (by rw [e1]; exact hx) hx10 (by rw [e1]; exact hy) hy10 ?_ xc hy10 yc ?_ ?_
  · unfold M_want
    rw [hx9, hy9, e1, if_neg (by decide), if_neg hn5, if_neg (by decide)]
  · rw [e1, if_neg hn5]; exact hy.symm
  · refine post _ settle_Fr ?_ ?_ ?_
    · refine hI.pop (m := max m1 m2 + 1) ?_ ?_ rcu_self (fun i => settle_9) (fun i hi => settle_o hi) ?_
      · exact settle_Fr.1 1 (by decide) (by decide) (by decide) (by decide) (by decide)
      · rw [rcu_ne (by decide)]
        unfold M_settle M_set0
        split
        · rw [rcr_n (by decide), rcr_n (by decide), rcr_n (by decide)]
        · rw [rcr_n (by decide), rcr_n (by decide), rcr_n (by decide)]
      · have hp : 0 < v 1 (ix c 0) := by rw [e1]; exact hw.pos hc h0
        rw [(settle_1 hp).1, (settle_1 hp).2, ev_s, if_neg h0, hx, cN_nI hx10, ev_le q1 (Nat.le_max_left _ _)]
        dsimp only
        rw [if_neg hn5, hy, cN_nI hy10, ev_le q2 (Nat.le_max_right _ _), e1]
    · rw [settle_9, if_pos rfl]
    · intro i hi h2
      rw [settle_9, if_neg hi]; exact h2
theorem VA_2 {K : Option Value → rcM → Prop} {H : rcM → Prop} (hA : HA K H) {f : Nat → Int32} (hw : WD f) {c0 n : Nat} (ih : VA K H f c0 n) {O : List Nat} {c x : Nat} {v : rcM} (hI : AI f v (c :: O)) (hn : 9 ≤ n + O.length) (h00 : c0 ∈ c :: O) (h0 : ¬ f (ix c 0) = 0) (hx : f (ix c 2) = nI x) (hx10 : x < 10) (hx9 : v 9 x = 2) (hF : ∀ w, FrA v w → Never f c0 → K (some (.int 0)) w) (post : VPost H f O c v) : H v := by
  have hcO := List.nodup_cons.mp hI.2.2.2.1.1
  have hc : c < 10 := hI.2.2.2.1.2 c List.mem_cons_self
  have hlen : O.length < 10 := by have := hI.2.2.2.1.len; simp only [List.length_cons] at this; omega
  have hc9 : v 9 c = 1 := hI.2.2.2.2.2.1 c List.mem_cons_self
  have xc : x ≠ c := fun e => absurd (hx9.symm.trans (e ▸ hc9)) (by decide)
  have e1 : v 1 = f := hI.1
  have hxn : x ∉ c :: O := fun q => absurd (hx9.symm.trans (hI.2.2.2.2.2.1 x q)) (by decide)
  obtain ⟨m1, q1⟩ : ∃ m, ev m f x = some (v 10 x, v 11 x) := by
    rcases hI.2.2.2.2.2.2 x hx10 hxn with z | z
    · exact absurd (hx9.symm.trans z) (by decide)
    · exact z.2
  have hy := cN_ok (hw.nxt (a := v 10 x) hc h0)
  generalize ey : cN (A_nxt f c (v 10 x)) = y at *
  by_cases h5 : f (ix c 0) = 5 ∧ v 10 x = 2000000000
  · refine hA.2.1 v O.length c x y x hc hlen hI.2.2.1.1 hI.2.1 (by rw [e1]; exact hw.pos hc h0) (by rw [e1]; exact hx) hx10 (by rw [e1]; exact hy.2) hy.1 ?_ xc hx10 xc ?_ ?_
    · unfold M_want
      rw [hx9, e1, if_neg (by decide), if_pos h5]
    · rw [e1, if_pos h5]
    · refine post _ settle_Fr ?_ ?_ ?_
      · refine hI.pop (m := m1 + 1) ?_ ?_ rcu_self (fun i => settle_9) (fun i hi => settle_o hi) ?_
        · exact settle_Fr.1 1 (by decide) (by decide) (by decide) (by decide) (by decide)
        · rw [rcu_ne (by decide)]
          unfold M_settle M_set0
          split
          · rw [rcr_n (by decide), rcr_n (by decide), rcr_n (by decide)]
          · rw [rcr_n (by decide), rcr_n (by decide), rcr_n (by decide)]
        · have hp : 0 < v 1 (ix c 0) := by rw [e1]; exact hw.pos hc h0
          rw [(settle_1 hp).1, (settle_1 hp).2, ev_s, if_neg h0, hx, cN_nI hx10, q1]
          dsimp only
          rw [if_pos h5, h5.2]
          rfl
      · rw [settle_9, if_pos rfl]
      · intro i hi h2
        rw [settle_9, if_neg hi]; exact h2
  · have hD : Desc f c y := by
      have := desc_2 (f := f) (c := c) (k := m1) (a := v 10 x) (S := v 11 x) h0 (by rw [hx, cN_nI hx10]; exact q1) h5
      rwa [ey] at this
    by_cases hy2 : v 9 y = 2
    · exact VA_3 hA hw hI h0 hx hx10 hx9 hy.2 hy.1 h5 hy2 post
    · by_cases hym : y ∈ c :: O
      · have hy1 := hI.2.2.2.2.2.1 y hym
        refine hA.2.2.1 v O.length c x y y hc hlen hI.2.2.1.1 hI.2.1 (by rw [e1]; exact h0) (by rw [e1]; exact hx) hx10 (by rw [e1]; exact hy.2) hy.1 ?_ hy.1 hy1 (hF v FrA.rf (ring_never hI hym hD h00))
        unfold M_want
        rw [hx9, hy1, e1, if_neg (by decide), if_neg h5, if_pos (by decide)]
      · have hy0 : v 9 y = 0 := (hI.2.2.2.2.2.2 y hy.1 hym).elim id (fun z => absurd z.1 hy2)
        have hI' := hI.push hy.1 hym hD
        have hl2 := hI'.2.2.2.1.len
        simp only [List.length_cons] at hl2
        refine hA.2.2.2 v O.length c x y y hc hlen hI.2.2.1.1 hI.2.1 (by rw [e1]; exact h0) (by rw [e1]; exact hx) hx10 (by rw [e1]; exact hy.2) hy.1 ?_ hy.1 (by rw [hy0]; decide) (by omega) ?_
        · unfold M_want
          rw [hx9, hy0, e1, if_neg (by decide), if_neg h5, if_pos (by decide)]
        · refine ih (c :: O) y _ hI' (by simp only [List.length_cons]; omega) (List.mem_cons_of_mem _ h00) (fun w hf hv => hF w (apush_Fr.tr hf) hv) ?_
          intro w hfr hIw hwy hmon
          have a9 : ∀ i, v 9 i = 2 → M_apush v y (O.length + 1) 9 i = 2 := fun i h2 => by
            unfold M_apush
            rw [rcu_ne (by decide), rcu_ne (by decide), rcu_k (fun e : i = y => hy2 (e ▸ h2))]; exact h2
          have mon : ∀ i, v 9 i = 2 → w 9 i = 2 := fun i h2 => hmon i (fun e : i = y => hy2 (e ▸ h2)) (a9 i h2)
          have hwx := mon x hx9
          have hxw : x ∉ c :: O := hxn
          have ex10 : w 10 x = v 10 x := by
            rcases hIw.2.2.2.2.2.2 x hx10 hxw with z | ⟨_, m, z⟩
            · exact absurd (hwx.symm.trans z) (by decide)
            · exact (congrArg Prod.fst (ev_eq z q1))
          refine VA_3 hA hw hIw h0 hx hx10 hwx (by rw [ex10]; exact hy.2) hy.1 (by rw [ex10]; exact h5) hwy (fun w2 f2 i2 s2 m2 => post w2 ((apush_Fr.tr hfr).tr f2) i2 s2 (fun i hi h2 => m2 i hi (mon i h2)))
theorem VA_all {K : Option Value → rcM → Prop} {H : rcM → Prop} (hA : HA K H) {f : Nat → Int32} (hw : WD f) {c0 : Nat} : ∀ n, VA K H f c0 n := by
  intro n
  induction n with
  | zero =>
    intro O c v hI hn
    have := hI.2.2.2.1.len
    simp only [List.length_cons] at this
    omega
  | succ n ih =>
    intro O c v hI hn h00 hF post
    have hcO := List.nodup_cons.mp hI.2.2.2.1.1
    have hc : c < 10 := hI.2.2.2.1.2 c List.mem_cons_self
    have hlen : O.length < 10 := by have := hI.2.2.2.1.len; simp only [List.length_cons] at this; omega
    have e1 : v 1 = f := hI.1
    by_cases h0 : f (ix c 0) = 0
    · refine hA.1 v O.length c hc hlen hI.2.2.1.1 hI.2.1 (by rw [e1]; exact h0) ?_
      refine post _ settle_Fr ?_ ?_ ?_
      · refine hI.pop (m := 1) ?_ ?_ rcu_self (fun i => settle_9) (fun i hi => settle_o hi) ?_
        · exact settle_Fr.1 1 (by decide) (by decide) (by decide) (by decide) (by decide)
        · rw [rcu_ne (by decide)]
          unfold M_settle M_set0
          split
          · rw [rcr_n (by decide), rcr_n (by decide), rcr_n (by decide)]
          · rw [rcr_n (by decide), rcr_n (by decide), rcr_n (by decide)]
        · have z : v 1 (ix c 0) = 0 := by rw [e1]; exact h0
          rw [(settle_0 z).1, (settle_0 z).2, ev_s, if_pos h0, e1]
      · rw [settle_9, if_pos rfl]
      · intro i hi h2
        rw [settle_9, if_neg hi]; exact h2
    · have hx := cN_ok ((hw c hc).2 h0).1
      have hD : Desc f c (cN (f (ix c 2))) := desc_1 h0
      generalize ex : cN (f (ix c 2)) = x at *
      have hy := cN_ok (hw.nxt (a := v 10 x) hc h0)
      by_cases hx2 : v 9 x = 2
      · exact VA_2 hA hw ih hI (by omega) h00 h0 hx.2 hx.1 hx2 hF post
      · by_cases hxm : x ∈ c :: O
        · have hx1 := hI.2.2.2.2.2.1 x hxm
          refine hA.2.2.1 v O.length c x _ x hc hlen hI.2.2.1.1 hI.2.1 (by rw [e1]; exact h0) (by rw [e1]; exact hx.2) hx.1 (by rw [e1]; exact hy.2) hy.1 ?_ hx.1 hx1 (hF v FrA.rf (ring_never hI hxm hD h00))
          unfold M_want
          rw [hx1, if_pos (by decide)]
        · have hx0 : v 9 x = 0 := (hI.2.2.2.2.2.2 x hx.1 hxm).elim id (fun z => absurd z.1 hx2)
          have hI' := hI.push hx.1 hxm hD
          have hl2 := hI'.2.2.2.1.len
          simp only [List.length_cons] at hl2
          refine hA.2.2.2 v O.length c x _ x hc hlen hI.2.2.1.1 hI.2.1 (by rw [e1]; exact h0) (by rw [e1]; exact hx.2) hx.1 (by rw [e1]; exact hy.2) hy.1 ?_ hx.1 (by rw [hx0]; decide) (by omega) ?_
          · unfold M_want
            rw [hx0, if_pos (by decide)]
          · refine ih (c :: O) x _ hI' (by simp only [List.length_cons]; omega) (List.mem_cons_of_mem _ h00) (fun w hf hv => hF w (apush_Fr.tr hf) hv) ?_
            intro w hfr hIw hwx hmon
            have a9 : ∀ i, v 9 i = 2 → M_apush v x (O.length + 1) 9 i = 2 := fun i h2 => by
              unfold M_apush
              rw [rcu_ne (by decide), rcu_ne (by decide), rcu_k (fun e : i = x => hx2 (e ▸ h2))]; exact h2
            have mon : ∀ i, v 9 i = 2 → w 9 i = 2 := fun i h2 => hmon i (fun e : i = x => hx2 (e ▸ h2)) (a9 i h2)
            exact VA_2 hA hw ih hIw (by omega) h00 h0 hx.2 hx.1 hwx (fun w2 f2 hv => hF w2 ((apush_Fr.tr hfr).tr f2) hv) (fun w2 f2 i2 s2 m2 => post w2 ((apush_Fr.tr hfr).tr f2) i2 s2 (fun i hi h2 => m2 i hi (mon i h2)))
