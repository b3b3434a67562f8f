/-! Making: what comes back of an init beside what was there. -/
theorem push_at {ws : va_W} {q : Nat × va_E} : (ws ++ [q])[ws.length]? = some q := by simp
theorem join_push {A0 : Nat → Prop} {D : va_G} {cl : List vw_C} {ws w1 : va_W} {q : Nat} {e : va_E} {H0 H H1 : Heap} (hP : va_P D cl (ws ++ [(q, e)]) H) (hD : va_D A0 (ws ++ [(q, e)])) (hA : ∀ x : Nat, H0.size ≤ x → A0 x) (hz : H0.size ≤ H.size)
    (hk : ∀ x : Nat, x < H.size → ¬ va_A [(q, e)] H.size x → H1[x]? = H[x]?) (hP1 : va_P D cl w1 H1) (hD1 : va_D (va_A [(q, e)] H.size) w1) : va_P D cl (ws ++ w1) H1 ∧ va_D A0 (ws ++ w1) := by
  have hin : ∀ (k : Nat) (z : Nat × va_E), ws[k]? = some z → (ws ++ [(q, e)])[k]? = some z := fun k z hz => by
    rw [List.getElem?_append_left (List.getElem?_eq_some_iff.mp hz).1]
    exact hz
  have hlt : ∀ (k : Nat) (z : Nat × va_E), ws[k]? = some z → z.1 < H.size := fun k z hz => va_at.lt (hP k z (hin k z hz))
  have hne : ∀ (k : Nat) (z : Nat × va_E), ws[k]? = some z → z.1 ≠ q := fun k z hz he => by
    have h1 := hD.1 k ws.length z (q, e) (hin k z hz) push_at he
    have h2 := (List.getElem?_eq_some_iff.mp hz).1
    omega
  have hnA : ∀ (k : Nat) (z : Nat × va_E), ws[k]? = some z → ¬ va_A [(q, e)] H.size z.1 := fun k z hz hA' => by
    rcases hA' with ⟨k', e', hk'⟩ | h
    · cases k' with
      | zero =>
        have : (q, e) = (z.1, e') := Option.some.inj hk'
        exact hne k z hz (congrArg Prod.fst this).symm
      | succ k' => simp at hk'
    · have := hlt k z hz
      omega
  have hq : A0 q := hD.2 ws.length (q, e) push_at
  refine ⟨va_P.app (va_P.kept (fun k z hz => hP k z (hin k z hz)) (fun k z hz => hk z.1 (hlt k z hz) (hnA k z hz))) hP1, va_D.app ⟨fun i j a b ha hb hab => hD.1 i j a b (hin i a ha) (hin j b hb) hab, fun k z hz => hD.2 k z (hin k z hz)⟩ (hD1.weaken (fun k z hz hA' => ?_)) (fun i j a b ha hb hab => hnA i a ha (by rw [hab]; exact hD1.2 j b hb))⟩
  rcases hA' with ⟨k', e', hk'⟩ | h
  · cases k' with
    | zero =>
      have : (q, e) = (z.1, e') := Option.some.inj hk'
      rw [← congrArg Prod.fst this]
      exact hq
    | succ k' => simp at hk'
  · exact hA z.1 (by omega)
