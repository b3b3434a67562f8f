/-! The law: texts typed. -/
/-- how many of the first k signs are ";" -/
def sc (tx : Nat → Int32) : Nat → Nat
  | 0 => 0
  | k + 1 => sc tx k + (if tx k = 59 then 1 else 0)
theorem sc_upd {tx : Nat → Int32} {n : Nat} {x : Int32} : ∀ k, k ≤ n → sc (upd tx n x) k = sc tx k := by
  intro k
  induction k with
  | zero => intro _; rfl
  | succ k ih =>
    intro h
    unfold sc
    rw [ih (by omega), pk_un (show k ≠ n by omega)]
theorem sc_mono {tx : Nat → Int32} {a : Nat} : ∀ b, a ≤ b → sc tx a ≤ sc tx b := by
  intro b
  induction b with
  | zero => intro h; rw [Nat.le_zero.mp h]; exact Nat.le_refl _
  | succ b ih =>
    intro h
    rcases Nat.lt_or_ge a (b + 1) with z | z
    · have := ih (by omega)
      show sc tx a ≤ sc tx b + _
      omega
    · rw [Nat.le_antisymm h z]; exact Nat.le_refl _
/-- the class with a text of at most A signs, at most B of them ";" -/
def TQ (v : rcM) (f p : Nat → Int32) (n A B : Nat) : Prop := ∃ (tx : Nat → Int32) (ln : Nat), CR v f p n tx ln ∧ ln ≤ A ∧ sc tx ln ≤ B
theorem TQ.up {v : rcM} {f p : Nat → Int32} {n A B A' B' : Nat} (h : TQ v f p n A B) (hA : A ≤ A') (hB : B ≤ B') : TQ v f p n A' B' := by
  obtain ⟨tx, ln, h1, h2, h3⟩ := h
  exact ⟨tx, ln, h1, by omega, by omega⟩
theorem ty_step {u : rcM} {f p tx : Nat → Int32} {n ln A B : Nat} {x : Int32} {r : Option Value} (h : KX (S_type tx ln x).1 f p n (S_type tx ln x).2.1 (S_type tx ln x).2.2 r u) (hl : ln ≤ A) (hs : sc tx ln ≤ B) (hA : A < 60) (hx : 32 ≤ x ∧ x ≤ 126) :
    ∃ z : Nat, r = some (.int (nI z)) ∧ (0 < z ∧ z ≤ 60) ∧ TQ u f p n (A + 1) (B + (if x = 59 then 1 else 0)) := by
  have e : S_type tx ln x = (nI (ln + 1), upd tx ln x, ln + 1) := by
    unfold S_type
    rw [if_pos hx, if_neg (by omega)]
  rw [e] at h
  obtain ⟨rfl, hC⟩ := h
  refine ⟨ln + 1, rfl, by omega, upd tx ln x, ln + 1, hC, by omega, ?_⟩
  show sc (upd tx ln x) ln + (if upd tx ln x ln = 59 then 1 else 0) ≤ _
  rw [sc_upd ln (Nat.le_refl _), pk_us]
  omega
theorem ty_n {u : rcM} {f p tx : Nat → Int32} {n ln A B : Nat} {x : Int32} {r : Option Value} (h : KX (S_type tx ln x).1 f p n (S_type tx ln x).2.1 (S_type tx ln x).2.2 r u) (hl : ln ≤ A) (hs : sc tx ln ≤ B) (hA : A < 60) (hx : 32 ≤ x ∧ x ≤ 126) (hx2 : ¬ x = 59) :
    ∃ z : Nat, r = some (.int (nI z)) ∧ (0 < z ∧ z ≤ 60) ∧ TQ u f p n (A + 1) B := by
  obtain ⟨z, h1, h2, h3⟩ := ty_step h hl hs hA hx
  rw [if_neg hx2] at h3
  exact ⟨z, h1, h2, h3⟩
theorem ch_r {a : Nat} (h : 32 ≤ a ∧ a ≤ 126) : 32 ≤ nI a ∧ nI a ≤ 126 := ⟨nI_le (a := 32) h.1 (by omega), nI_le (b := 126) h.2 (by decide)⟩
theorem ch_n {a : Nat} (h : a < 2 ^ 31) (h2 : a ≠ 59) : ¬ nI a = 59 := fun z => h2 ((nI_eq (b := 59) h (by decide)).mp z)
set_option maxHeartbeats 8000000 in
set_option maxRecDepth 100000 in
theorem c_types {Y : rcY} {la : Launch} {v : rcM} {f p tx : Nat → Int32} {n ln : Nat} (hn4 : n ≤ 4) (hC : CR v f p n tx ln) (hln : ln ≤ 60) {x : Int32} : rcT shC 139 Y la 2 (yL_types, cL_types, 8, (some .boolean)) [.ref (Y.2.1 0), .int x] (v) (fun r u => r = some (.int 1) ∧ TQ u f p n 24 3) := by
  refine rcT.of (by decide +kernel) (Nat.le_of_ble_eq_true rfl) (fun X F hn => ?_)
  obtain ⟨N, hN, eN⟩ : ∃ N : Nat, (1 ≤ N ∧ N ≤ 3) ∧ nI (1 + lowN x 3) = nI N := ⟨1 + lowN x 3, by have := lowN_lt (x := x) (N := 3) (by decide); omega, rfl⟩
  have loop : ∀ r t : Nat, t ≤ N → N < t + r → ∀ u, TQ u f p n (8 * t) t → rcJ shC 139 Y X (fun r u => r = some (.int 1) ∧ TQ u f p n 24 3) 24 [(4, .int (nI (t))), (3, .int 1), (2, .int (nI N)), (1, .int x), (0, .ref (Y.2.1 0))] [] u := by
    intro r
    induction r with
    | zero => intro t ht hr; omega
    | succ r ih =>
      intro t ht hr u hu
      refine j_iload F.1 dL_types_24 rfl ?_
      refine j_iload_n F.1 dL_types_26 rfl ?_
      refine j_icmp_ge F.1 325 dL_types_27 (by decide) (fun h27 => ?_) (fun h27 => ?_)
      · have q27 : N ≤ t := (nI_leI (a := N) (b := t) (by omega) (by omega)).mp h27
        refine j_iload_n F.1 dL_types_325 rfl ?_
        exact j_zret F (Or.inr rfl) dL_types_326 ⟨rfl, hu.up (by omega) (by omega)⟩
      · have q27 : t < N := Nat.lt_of_not_le (fun z => h27 ((nI_leI (a := N) (b := t) (by omega) (by omega)).mpr z))
        have T280 : ∀ (y : Int32) (S : Nat) (u : rcM), TQ u f p n (8 * t + 7) t → rcJ shC 139 Y X (fun r u => r = some (.int 1) ∧ TQ u f p n 24 3) 280 [(6, .int (nI S)), (5, .int y), (4, .int (nI t)), (3, .int 1), (2, .int (nI N)), (1, .int x), (0, .ref (Y.2.1 0))] [] u := by
          intro y S u hu
          refine j_iload_n F.1 dL_types_280 rfl ?_
          refine j_if_eq F.1 317 dL_types_281 (by decide) (fun h281 => False.elim (by revert h281; decide)) (fun _ => ?_)
          refine j_iload_n F.1 dL_types_284 rfl ?_
          refine j_bipush F.1 (24) dL_types_285 (by decide) ?_
          refine j_ishr F.1 dL_types_287 ?_
          refine j_bipush F.1 (7) dL_types_288 (by decide) ?_
          refine j_callSi F (c_low (N := 7) (by decide) (by decide)) co_L_low ml_L_37 st_L_low in_L rc_L_low rfl (by decide) (by decide) rfl (Nat.le_of_ble_eq_true rfl) dL_types_290 ?_
          refine j_if_ne F.1 304 dL_types_293 (by decide) (fun h293 => ?_) (fun h293 => ?_)
          · refine j_aload_n F.1 dL_types_304 rfl ?_
            refine j_bipush F.1 (59) dL_types_305 (by decide) ?_
            obtain ⟨tx, ln, hC, hl, hs⟩ := hu
            refine j_callV F (c_type hn4 hC (by omega)) co_X5_type ml_L_44 im_X5_type se_X5_type in_X5 rc_X5_type rfl (by decide) (by decide) ⟨by decide, rfl⟩ rfl rfl (Nat.le_of_ble_eq_true rfl) dL_types_307 (fun r u hr => ?_)
            obtain ⟨z, rfl, hz, hu⟩ := ty_step hr hl hs (by omega) (by decide)
            refine j_tl ?_
            refine j_if_le F.1 317 dL_types_310 (by decide) (fun h310 => ?_) (fun h310 => ?_)
            · exact absurd h310 (nI_nle hz.1 (by omega))
            · refine j_iconst F.1 (1) dL_types_313 (by decide) ?_
              refine j_goto F.1 318 dL_types_314 (by decide) ?_
              refine j_istore_n F.1 dL_types_318 (by rw [hn]; decide) ?_
              refine j_iinc F.1 (1) dL_types_319 (by decide) rfl (by rw [hn]; decide) ?_
              refine j_goto F.1 24 dL_types_322 (by decide) ?_
              refine j_loc [(4, .int (nI (t + 1))), (3, .int 1), (2, .int (nI N)), (1, .int x), (0, .ref (Y.2.1 0))] (by rw [← nI_1]; rfl) ?_
              exact ih (t + 1) (by omega) (by omega) _ (hu.up (by omega) (by first | omega | simp))
          · refine j_iload F.1 dL_types_296 rfl ?_
            refine j_iload_n F.1 dL_types_298 rfl ?_
            refine j_iconst F.1 (1) dL_types_299 (by decide) ?_
            refine j_isub F.1 dL_types_300 ?_
            refine j_icmp_eq F.1 313 dL_types_301 (by decide) (fun h301 => ?_) (fun h301 => ?_)
            · refine j_iconst F.1 (1) dL_types_313 (by decide) ?_
              refine j_goto F.1 318 dL_types_314 (by decide) ?_
              refine j_istore_n F.1 dL_types_318 (by rw [hn]; decide) ?_
              refine j_iinc F.1 (1) dL_types_319 (by decide) rfl (by rw [hn]; decide) ?_
              refine j_goto F.1 24 dL_types_322 (by decide) ?_
              refine j_loc [(4, .int (nI (t + 1))), (3, .int 1), (2, .int (nI N)), (1, .int x), (0, .ref (Y.2.1 0))] (by rw [← nI_1]; rfl) ?_
              exact ih (t + 1) (by omega) (by omega) _ (hu.up (by omega) (by first | omega | simp))
            · refine j_aload_n F.1 dL_types_304 rfl ?_
              refine j_bipush F.1 (59) dL_types_305 (by decide) ?_
              obtain ⟨tx, ln, hC, hl, hs⟩ := hu
              refine j_callV F (c_type hn4 hC (by omega)) co_X5_type ml_L_44 im_X5_type se_X5_type in_X5 rc_X5_type rfl (by decide) (by decide) ⟨by decide, rfl⟩ rfl rfl (Nat.le_of_ble_eq_true rfl) dL_types_307 (fun r u hr => ?_)
              obtain ⟨z, rfl, hz, hu⟩ := ty_step hr hl hs (by omega) (by decide)
              refine j_tl ?_
              refine j_if_le F.1 317 dL_types_310 (by decide) (fun h310 => ?_) (fun h310 => ?_)
              · exact absurd h310 (nI_nle hz.1 (by omega))
              · refine j_iconst F.1 (1) dL_types_313 (by decide) ?_
                refine j_goto F.1 318 dL_types_314 (by decide) ?_
                refine j_istore_n F.1 dL_types_318 (by rw [hn]; decide) ?_
                refine j_iinc F.1 (1) dL_types_319 (by decide) rfl (by rw [hn]; decide) ?_
                refine j_goto F.1 24 dL_types_322 (by decide) ?_
                refine j_loc [(4, .int (nI (t + 1))), (3, .int 1), (2, .int (nI N)), (1, .int x), (0, .ref (Y.2.1 0))] (by rw [← nI_1]; rfl) ?_
                exact ih (t + 1) (by omega) (by omega) _ (hu.up (by omega) (by first | omega | simp))
        have T186 : ∀ (y : Int32) (S : Nat) (c : Int32) (u : rcM), TQ u f p n (8 * t + 2) t → ((32 ≤ c ∧ c ≤ 126) ∧ ¬ c = 59) → rcJ shC 139 Y X (fun r u => r = some (.int 1) ∧ TQ u f p n 24 3) 186 [(6, .int (nI S)), (5, .int y), (4, .int (nI t)), (3, .int 1), (2, .int (nI N)), (1, .int x), (0, .ref (Y.2.1 0))] [.int c] u := by
          intro y S c u hu hc
          refine j_istore F.1 dL_types_186 (by rw [hn]; decide) ?_
          refine j_iload_n F.1 dL_types_188 rfl ?_
          refine j_if_eq F.1 278 dL_types_189 (by decide) (fun h189 => False.elim (by revert h189; decide)) (fun _ => ?_)
          refine j_aload_n F.1 dL_types_192 rfl ?_
          refine j_bipush F.1 (97) dL_types_193 (by decide) ?_
          refine j_iload F.1 dL_types_195 rfl ?_
          refine j_iconst F.1 (2) dL_types_197 (by decide) ?_
          refine j_ishr F.1 dL_types_198 ?_
          refine j_bipush F.1 (10) dL_types_199 (by decide) ?_
          refine j_callSi F (c_low (N := 10) (by decide) (by decide)) co_L_low ml_L_37 st_L_low in_L rc_L_low rfl (by decide) (by decide) rfl (Nat.le_of_ble_eq_true rfl) dL_types_201 ?_
          refine j_iadd F.1 dL_types_204 ?_
          refine j_top (nI_add 97 (lowN (y >>> (2 &&& 31)) 10)) ?_
          obtain ⟨tx, ln, hC, hl, hs⟩ := hu
          refine j_callV F (c_type hn4 hC (by omega)) co_X5_type ml_L_44 im_X5_type se_X5_type in_X5 rc_X5_type rfl (by decide) (by decide) ⟨by decide, rfl⟩ rfl rfl (Nat.le_of_ble_eq_true rfl) dL_types_205 (fun r u hr => ?_)
          obtain ⟨z, rfl, hz, hu⟩ := ty_n hr hl hs (by omega) (ch_r (by have := lowN_lt (x := (y >>> (2 &&& 31))) (N := 10) (by decide); omega)) (ch_n (by have := lowN_lt (x := (y >>> (2 &&& 31))) (N := 10) (by decide); omega) (by have := lowN_lt (x := (y >>> (2 &&& 31))) (N := 10) (by decide); omega))
          refine j_tl ?_
          refine j_if_le F.1 278 dL_types_208 (by decide) (fun h208 => ?_) (fun h208 => ?_)
          · exact absurd h208 (nI_nle hz.1 (by omega))
          · refine j_aload_n F.1 dL_types_211 rfl ?_
            refine j_iload F.1 dL_types_212 rfl ?_
            obtain ⟨tx, ln, hC, hl, hs⟩ := hu
            refine j_callV F (c_type hn4 hC (by omega)) co_X5_type ml_L_44 im_X5_type se_X5_type in_X5 rc_X5_type rfl (by decide) (by decide) ⟨by decide, rfl⟩ rfl rfl (Nat.le_of_ble_eq_true rfl) dL_types_214 (fun r u hr => ?_)
            obtain ⟨z, rfl, hz, hu⟩ := ty_n hr hl hs (by omega) hc.1 hc.2
            refine j_tl ?_
            refine j_if_le F.1 278 dL_types_217 (by decide) (fun h217 => ?_) (fun h217 => ?_)
            · exact absurd h217 (nI_nle hz.1 (by omega))
            · refine j_aload_n F.1 dL_types_220 rfl ?_
              refine j_bipush F.1 (97) dL_types_221 (by decide) ?_
              refine j_iload F.1 dL_types_223 rfl ?_
              refine j_iconst F.1 (5) dL_types_225 (by decide) ?_
              refine j_ishr F.1 dL_types_226 ?_
              refine j_bipush F.1 (10) dL_types_227 (by decide) ?_
              refine j_callSi F (c_low (N := 10) (by decide) (by decide)) co_L_low ml_L_37 st_L_low in_L rc_L_low rfl (by decide) (by decide) rfl (Nat.le_of_ble_eq_true rfl) dL_types_229 ?_
              refine j_iadd F.1 dL_types_232 ?_
              refine j_top (nI_add 97 (lowN (y >>> (5 &&& 31)) 10)) ?_
              obtain ⟨tx, ln, hC, hl, hs⟩ := hu
              refine j_callV F (c_type hn4 hC (by omega)) co_X5_type ml_L_44 im_X5_type se_X5_type in_X5 rc_X5_type rfl (by decide) (by decide) ⟨by decide, rfl⟩ rfl rfl (Nat.le_of_ble_eq_true rfl) dL_types_233 (fun r u hr => ?_)
              obtain ⟨z, rfl, hz, hu⟩ := ty_n hr hl hs (by omega) (ch_r (by have := lowN_lt (x := (y >>> (5 &&& 31))) (N := 10) (by decide); omega)) (ch_n (by have := lowN_lt (x := (y >>> (5 &&& 31))) (N := 10) (by decide); omega) (by have := lowN_lt (x := (y >>> (5 &&& 31))) (N := 10) (by decide); omega))
              refine j_tl ?_
              refine j_if_le F.1 278 dL_types_236 (by decide) (fun h236 => ?_) (fun h236 => ?_)
              · exact absurd h236 (nI_nle hz.1 (by omega))
              · refine j_iload F.1 dL_types_239 rfl ?_
                refine j_bipush F.1 (6) dL_types_241 (by decide) ?_
                refine j_icmp_lt F.1 274 dL_types_243 (by decide) (fun h243 => ?_) (fun h243 => ?_)
                · refine j_iconst F.1 (1) dL_types_274 (by decide) ?_
                  refine j_goto F.1 279 dL_types_275 (by decide) ?_
                  refine j_istore_n F.1 dL_types_279 (by rw [hn]; decide) ?_
                  refine j_loc [(6, .int (nI S)), (5, .int y), (4, .int (nI t)), (3, .int 1), (2, .int (nI N)), (1, .int x), (0, .ref (Y.2.1 0))] rfl ?_
                  exact T280 _ _ _ (hu.up (by omega) (Nat.le_refl _))
                · refine j_aload_n F.1 dL_types_246 rfl ?_
                  refine j_bipush F.1 (58) dL_types_247 (by decide) ?_
                  obtain ⟨tx, ln, hC, hl, hs⟩ := hu
                  refine j_callV F (c_type hn4 hC (by omega)) co_X5_type ml_L_44 im_X5_type se_X5_type in_X5 rc_X5_type rfl (by decide) (by decide) ⟨by decide, rfl⟩ rfl rfl (Nat.le_of_ble_eq_true rfl) dL_types_249 (fun r u hr => ?_)
                  obtain ⟨z, rfl, hz, hu⟩ := ty_n hr hl hs (by omega) (by decide) (by decide)
                  refine j_tl ?_
                  refine j_if_le F.1 278 dL_types_252 (by decide) (fun h252 => ?_) (fun h252 => ?_)
                  · exact absurd h252 (nI_nle hz.1 (by omega))
                  · refine j_aload_n F.1 dL_types_255 rfl ?_
                    refine j_bipush F.1 (97) dL_types_256 (by decide) ?_
                    refine j_iload F.1 dL_types_258 rfl ?_
                    refine j_iconst F.1 (1) dL_types_260 (by decide) ?_
                    refine j_ishr F.1 dL_types_261 ?_
                    refine j_bipush F.1 (10) dL_types_262 (by decide) ?_
                    refine j_callSi F (c_low (N := 10) (by decide) (by decide)) co_L_low ml_L_37 st_L_low in_L rc_L_low rfl (by decide) (by decide) rfl (Nat.le_of_ble_eq_true rfl) dL_types_264 ?_
                    refine j_iadd F.1 dL_types_267 ?_
                    refine j_top (nI_add 97 (lowN (y >>> (1 &&& 31)) 10)) ?_
                    obtain ⟨tx, ln, hC, hl, hs⟩ := hu
                    refine j_callV F (c_type hn4 hC (by omega)) co_X5_type ml_L_44 im_X5_type se_X5_type in_X5 rc_X5_type rfl (by decide) (by decide) ⟨by decide, rfl⟩ rfl rfl (Nat.le_of_ble_eq_true rfl) dL_types_268 (fun r u hr => ?_)
                    obtain ⟨z, rfl, hz, hu⟩ := ty_n hr hl hs (by omega) (ch_r (by have := lowN_lt (x := (y >>> (1 &&& 31))) (N := 10) (by decide); omega)) (ch_n (by have := lowN_lt (x := (y >>> (1 &&& 31))) (N := 10) (by decide); omega) (by have := lowN_lt (x := (y >>> (1 &&& 31))) (N := 10) (by decide); omega))
                    refine j_tl ?_
                    refine j_if_le F.1 278 dL_types_271 (by decide) (fun h271 => ?_) (fun h271 => ?_)
                    · exact absurd h271 (nI_nle hz.1 (by omega))
                    · refine j_iconst F.1 (1) dL_types_274 (by decide) ?_
                      refine j_goto F.1 279 dL_types_275 (by decide) ?_
                      refine j_istore_n F.1 dL_types_279 (by rw [hn]; decide) ?_
                      refine j_loc [(6, .int (nI S)), (5, .int y), (4, .int (nI t)), (3, .int 1), (2, .int (nI N)), (1, .int x), (0, .ref (Y.2.1 0))] rfl ?_
                      exact T280 _ _ _ (hu.up (by omega) (Nat.le_refl _))
        refine j_iload_n F.1 dL_types_30 rfl ?_
        refine j_iconst F.1 (2) dL_types_31 (by decide) ?_
        refine j_bipush F.1 (7) dL_types_32 (by decide) ?_
        refine j_iload F.1 dL_types_34 rfl ?_
        refine j_imul F.1 dL_types_36 ?_
        refine j_iadd F.1 dL_types_37 ?_
        refine j_ishr F.1 dL_types_38 ?_
        generalize x >>> ((2 + 7 * nI t) &&& 31) = y
        refine j_istore F.1 dL_types_39 (by rw [hn]; decide) ?_
        refine j_iload F.1 dL_types_41 rfl ?_
        refine j_bipush F.1 (7) dL_types_43 (by decide) ?_
        refine j_callSi F (c_low (N := 7) (by decide) (by decide)) co_L_low ml_L_37 st_L_low in_L rc_L_low rfl (by decide) (by decide) rfl (Nat.le_of_ble_eq_true rfl) dL_types_45 ?_
        refine j_istore F.1 dL_types_48 (by rw [hn]; decide) ?_
        refine j_iload_n F.1 dL_types_50 rfl ?_
        refine j_if_eq F.1 86 dL_types_51 (by decide) (fun h51 => False.elim (by revert h51; decide)) (fun _ => ?_)
        refine j_aload_n F.1 dL_types_54 rfl ?_
        refine j_bipush F.1 (97) dL_types_55 (by decide) ?_
        refine j_iload F.1 dL_types_57 rfl ?_
        refine j_iconst F.1 (3) dL_types_59 (by decide) ?_
        refine j_ishr F.1 dL_types_60 ?_
        refine j_bipush F.1 (11) dL_types_61 (by decide) ?_
        refine j_callSi F (c_low (N := 11) (by decide) (by decide)) co_L_low ml_L_37 st_L_low in_L rc_L_low rfl (by decide) (by decide) rfl (Nat.le_of_ble_eq_true rfl) dL_types_63 ?_
        refine j_iadd F.1 dL_types_66 ?_
        refine j_top (nI_add 97 (lowN (y >>> (3 &&& 31)) 11)) ?_
        obtain ⟨tx, ln, hC, hl, hs⟩ := hu
        refine j_callV F (c_type hn4 hC (by omega)) co_X5_type ml_L_44 im_X5_type se_X5_type in_X5 rc_X5_type rfl (by decide) (by decide) ⟨by decide, rfl⟩ rfl rfl (Nat.le_of_ble_eq_true rfl) dL_types_67 (fun r u hr => ?_)
        obtain ⟨z, rfl, hz, hu⟩ := ty_n hr hl hs (by omega) (ch_r (by have := lowN_lt (x := (y >>> (3 &&& 31))) (N := 11) (by decide); omega)) (ch_n (by have := lowN_lt (x := (y >>> (3 &&& 31))) (N := 11) (by decide); omega) (by have := lowN_lt (x := (y >>> (3 &&& 31))) (N := 11) (by decide); omega))
        refine j_tl ?_
        refine j_if_le F.1 86 dL_types_70 (by decide) (fun h70 => ?_) (fun h70 => ?_)
        · exact absurd h70 (nI_nle hz.1 (by omega))
        · refine j_aload_n F.1 dL_types_73 rfl ?_
          refine j_bipush F.1 (61) dL_types_74 (by decide) ?_
          obtain ⟨tx, ln, hC, hl, hs⟩ := hu
          refine j_callV F (c_type hn4 hC (by omega)) co_X5_type ml_L_44 im_X5_type se_X5_type in_X5 rc_X5_type rfl (by decide) (by decide) ⟨by decide, rfl⟩ rfl rfl (Nat.le_of_ble_eq_true rfl) dL_types_76 (fun r u hr => ?_)
          obtain ⟨z, rfl, hz, hu⟩ := ty_n hr hl hs (by omega) (by decide) (by decide)
          refine j_tl ?_
          refine j_if_le F.1 86 dL_types_79 (by decide) (fun h79 => ?_) (fun h79 => ?_)
          · exact absurd h79 (nI_nle hz.1 (by omega))
          · refine j_iconst F.1 (1) dL_types_82 (by decide) ?_
            refine j_goto F.1 87 dL_types_83 (by decide) ?_
            refine j_istore_n F.1 dL_types_87 (by rw [hn]; decide) ?_
            refine j_iload F.1 dL_types_88 rfl ?_
            refine j_iconst F.1 (2) dL_types_90 (by decide) ?_
            refine j_icmp_ge F.1 140 dL_types_91 (by decide) (fun h91 => ?_) (fun h91 => ?_)
            · refine j_iload F.1 dL_types_140 rfl ?_
              refine j_iconst F.1 (2) dL_types_142 (by decide) ?_
              refine j_icmp_ne F.1 151 dL_types_143 (by decide) (fun h143 => ?_) (fun h143 => ?_)
              · refine j_iload F.1 dL_types_151 rfl ?_
                refine j_iconst F.1 (3) dL_types_153 (by decide) ?_
                refine j_icmp_ne F.1 162 dL_types_154 (by decide) (fun h154 => ?_) (fun h154 => ?_)
                · refine j_iload F.1 dL_types_162 rfl ?_
                  refine j_iconst F.1 (4) dL_types_164 (by decide) ?_
                  refine j_icmp_ne F.1 173 dL_types_165 (by decide) (fun h165 => ?_) (fun h165 => ?_)
                  · refine j_iload F.1 dL_types_173 rfl ?_
                    refine j_iconst F.1 (5) dL_types_175 (by decide) ?_
                    refine j_icmp_ne F.1 184 dL_types_176 (by decide) (fun h176 => ?_) (fun h176 => ?_)
                    · refine j_bipush F.1 (63) dL_types_184 (by decide) ?_
                      refine j_loc [(6, .int (nI (lowN y 7))), (5, .int y), (4, .int (nI t)), (3, .int 1), (2, .int (nI N)), (1, .int x), (0, .ref (Y.2.1 0))] rfl ?_
                      exact T186 _ _ _ _ hu (by decide)
                    · refine j_bipush F.1 (94) dL_types_179 (by decide) ?_
                      refine j_goto F.1 186 dL_types_181 (by decide) ?_
                      refine j_loc [(6, .int (nI (lowN y 7))), (5, .int y), (4, .int (nI t)), (3, .int 1), (2, .int (nI N)), (1, .int x), (0, .ref (Y.2.1 0))] rfl ?_
                      exact T186 _ _ _ _ hu (by decide)
                  · refine j_bipush F.1 (42) dL_types_168 (by decide) ?_
                    refine j_goto F.1 186 dL_types_170 (by decide) ?_
                    refine j_loc [(6, .int (nI (lowN y 7))), (5, .int y), (4, .int (nI t)), (3, .int 1), (2, .int (nI N)), (1, .int x), (0, .ref (Y.2.1 0))] rfl ?_
                    exact T186 _ _ _ _ hu (by decide)
                · refine j_bipush F.1 (45) dL_types_157 (by decide) ?_
                  refine j_goto F.1 186 dL_types_159 (by decide) ?_
                  refine j_loc [(6, .int (nI (lowN y 7))), (5, .int y), (4, .int (nI t)), (3, .int 1), (2, .int (nI N)), (1, .int x), (0, .ref (Y.2.1 0))] rfl ?_
                  exact T186 _ _ _ _ hu (by decide)
              · refine j_bipush F.1 (43) dL_types_146 (by decide) ?_
                refine j_goto F.1 186 dL_types_148 (by decide) ?_
                refine j_loc [(6, .int (nI (lowN y 7))), (5, .int y), (4, .int (nI t)), (3, .int 1), (2, .int (nI N)), (1, .int x), (0, .ref (Y.2.1 0))] rfl ?_
                exact T186 _ _ _ _ hu (by decide)
            · refine j_iload_n F.1 dL_types_94 rfl ?_
              refine j_if_eq F.1 135 dL_types_95 (by decide) (fun h95 => False.elim (by revert h95; decide)) (fun _ => ?_)
              refine j_iload F.1 dL_types_98 rfl ?_
              refine j_if_eq F.1 112 dL_types_100 (by decide) (fun h100 => ?_) (fun h100 => ?_)
              · refine j_aload_n F.1 dL_types_112 rfl ?_
                refine j_bipush F.1 (48) dL_types_113 (by decide) ?_
                refine j_iload F.1 dL_types_115 rfl ?_
                refine j_iconst F.1 (4) dL_types_117 (by decide) ?_
                refine j_ishr F.1 dL_types_118 ?_
                refine j_bipush F.1 (10) dL_types_119 (by decide) ?_
                refine j_callSi F (c_low (N := 10) (by decide) (by decide)) co_L_low ml_L_37 st_L_low in_L rc_L_low rfl (by decide) (by decide) rfl (Nat.le_of_ble_eq_true rfl) dL_types_121 ?_
                refine j_iadd F.1 dL_types_124 ?_
                refine j_top (nI_add 48 (lowN (y >>> (4 &&& 31)) 10)) ?_
                obtain ⟨tx, ln, hC, hl, hs⟩ := hu
                refine j_callV F (c_type hn4 hC (by omega)) co_X5_type ml_L_44 im_X5_type se_X5_type in_X5 rc_X5_type rfl (by decide) (by decide) ⟨by decide, rfl⟩ rfl rfl (Nat.le_of_ble_eq_true rfl) dL_types_125 (fun r u hr => ?_)
                obtain ⟨z, rfl, hz, hu⟩ := ty_n hr hl hs (by omega) (ch_r (by have := lowN_lt (x := (y >>> (4 &&& 31))) (N := 10) (by decide); omega)) (ch_n (by have := lowN_lt (x := (y >>> (4 &&& 31))) (N := 10) (by decide); omega) (by have := lowN_lt (x := (y >>> (4 &&& 31))) (N := 10) (by decide); omega))
                refine j_tl ?_
                refine j_if_le F.1 135 dL_types_128 (by decide) (fun h128 => ?_) (fun h128 => ?_)
                · exact absurd h128 (nI_nle hz.1 (by omega))
                · refine j_iconst F.1 (1) dL_types_131 (by decide) ?_
                  refine j_goto F.1 136 dL_types_132 (by decide) ?_
                  refine j_istore_n F.1 dL_types_136 (by rw [hn]; decide) ?_
                  refine j_goto F.1 280 dL_types_137 (by decide) ?_
                  refine j_loc [(6, .int (nI (lowN y 7))), (5, .int y), (4, .int (nI t)), (3, .int 1), (2, .int (nI N)), (1, .int x), (0, .ref (Y.2.1 0))] rfl ?_
                  exact T280 _ _ _ (hu.up (by omega) (Nat.le_refl _))
              · refine j_aload_n F.1 dL_types_103 rfl ?_
                refine j_bipush F.1 (45) dL_types_104 (by decide) ?_
                obtain ⟨tx, ln, hC, hl, hs⟩ := hu
                refine j_callV F (c_type hn4 hC (by omega)) co_X5_type ml_L_44 im_X5_type se_X5_type in_X5 rc_X5_type rfl (by decide) (by decide) ⟨by decide, rfl⟩ rfl rfl (Nat.le_of_ble_eq_true rfl) dL_types_106 (fun r u hr => ?_)
                obtain ⟨z, rfl, hz, hu⟩ := ty_n hr hl hs (by omega) (by decide) (by decide)
                refine j_tl ?_
                refine j_if_le F.1 135 dL_types_109 (by decide) (fun h109 => ?_) (fun h109 => ?_)
                · exact absurd h109 (nI_nle hz.1 (by omega))
                · refine j_aload_n F.1 dL_types_112 rfl ?_
                  refine j_bipush F.1 (48) dL_types_113 (by decide) ?_
                  refine j_iload F.1 dL_types_115 rfl ?_
                  refine j_iconst F.1 (4) dL_types_117 (by decide) ?_
                  refine j_ishr F.1 dL_types_118 ?_
                  refine j_bipush F.1 (10) dL_types_119 (by decide) ?_
                  refine j_callSi F (c_low (N := 10) (by decide) (by decide)) co_L_low ml_L_37 st_L_low in_L rc_L_low rfl (by decide) (by decide) rfl (Nat.le_of_ble_eq_true rfl) dL_types_121 ?_
                  refine j_iadd F.1 dL_types_124 ?_
                  refine j_top (nI_add 48 (lowN (y >>> (4 &&& 31)) 10)) ?_
                  obtain ⟨tx, ln, hC, hl, hs⟩ := hu
                  refine j_callV F (c_type hn4 hC (by omega)) co_X5_type ml_L_44 im_X5_type se_X5_type in_X5 rc_X5_type rfl (by decide) (by decide) ⟨by decide, rfl⟩ rfl rfl (Nat.le_of_ble_eq_true rfl) dL_types_125 (fun r u hr => ?_)
                  obtain ⟨z, rfl, hz, hu⟩ := ty_n hr hl hs (by omega) (ch_r (by have := lowN_lt (x := (y >>> (4 &&& 31))) (N := 10) (by decide); omega)) (ch_n (by have := lowN_lt (x := (y >>> (4 &&& 31))) (N := 10) (by decide); omega) (by have := lowN_lt (x := (y >>> (4 &&& 31))) (N := 10) (by decide); omega))
                  refine j_tl ?_
                  refine j_if_le F.1 135 dL_types_128 (by decide) (fun h128 => ?_) (fun h128 => ?_)
                  · exact absurd h128 (nI_nle hz.1 (by omega))
                  · refine j_iconst F.1 (1) dL_types_131 (by decide) ?_
                    refine j_goto F.1 136 dL_types_132 (by decide) ?_
                    refine j_istore_n F.1 dL_types_136 (by rw [hn]; decide) ?_
                    refine j_goto F.1 280 dL_types_137 (by decide) ?_
                    refine j_loc [(6, .int (nI (lowN y 7))), (5, .int y), (4, .int (nI t)), (3, .int 1), (2, .int (nI N)), (1, .int x), (0, .ref (Y.2.1 0))] rfl ?_
                    exact T280 _ _ _ (hu.up (by omega) (Nat.le_refl _))
  refine j_iconst F.1 (1) dL_types_0 (by decide) ?_
  refine j_iload_n F.1 dL_types_1 rfl ?_
  refine j_iconst F.1 (3) dL_types_2 (by decide) ?_
  refine j_callSi F (c_low (N := 3) (by decide) (by decide)) co_L_low ml_L_37 st_L_low in_L rc_L_low rfl (by decide) (by decide) rfl (Nat.le_of_ble_eq_true rfl) dL_types_3 ?_
  refine j_iadd F.1 dL_types_6 ?_
  refine j_top (nI_add 1 (lowN x 3)) ?_
  refine j_top eN ?_
  refine j_istore_n F.1 dL_types_7 (by rw [hn]; decide) ?_
  refine j_aload_n F.1 dL_types_8 rfl ?_
  refine j_callV F (c_clearText hn4 hC) co_X5_clearText ml_L_40 im_X5_clearText se_X5_clearText in_X5 rc_X5_clearText rfl (by decide) (by decide) ⟨by decide, rfl⟩ rfl rfl (Nat.le_of_ble_eq_true rfl) dL_types_9 (fun r u hr => ?_)
  obtain ⟨rfl, hu⟩ := hr
  refine j_tl ?_
  refine j_if_lt F.1 19 dL_types_12 (by decide) (fun h12 => ?_) (fun h12 => ?_)
  · exact absurd h12 (nI_pos (by omega))
  · refine j_iconst F.1 (1) dL_types_15 (by decide) ?_
    refine j_goto F.1 20 dL_types_16 (by decide) ?_
    refine j_istore_n F.1 dL_types_20 (by rw [hn]; decide) ?_
    refine j_iconst F.1 (0) dL_types_21 (by decide) ?_
    refine j_istore F.1 dL_types_22 (by rw [hn]; decide) ?_
    refine j_loc [(4, .int (nI (0))), (3, .int 1), (2, .int (nI N)), (1, .int x), (0, .ref (Y.2.1 0))] rfl ?_
    exact loop (N + 1) 0 (by omega) (by omega) _ ⟨tx, 0, hu, Nat.le_refl _, Nat.le_refl _⟩
