/-! The law's loop. -/
theorem n_1 {n : Nat} (h : n ≤ 4) : ¬ nI n = nI n + 1 := fun z => by
  rw [nI_1, nI_eq (by omega) (by omega)] at z
  omega
theorem n_2 {n : Nat} (h : n ≤ 4) : ¬ nI n = nI (n + 1) := fun z => by
  rw [nI_eq (by omega) (by omega)] at z
  omega
set_option maxHeartbeats 8000000 in
set_option maxRecDepth 100000 in
theorem law_loop {X : rcX} {YC : rcY} {A : Nat → Prop} {Q : State → Prop} {b L : Nat} {sx : Nat → Int32} (hL : L ≤ 260) (F : rcF shC 139 YC X cL_law RL ret 60) (hn : xn X = 11) (hAf : ∀ q, rcA 139 YC q → A q) (hX : va_X b L sx (xs X) (xs X).heap) (hbl : b < (xs X).heap.size) (hbA : ¬ A b)
    (fin : ∀ (l : List (Nat × Value)) (v : rcM), rcG X (rcW shC 139 YC) A Q 271 l [.int 1] v) :
    ∀ (r t : Nat), t ≤ 30 → 30 < t + r → ∀ (u : rcM) (f p : Nat → Int32) (n : Nat) (tx : Nat → Int32) (ln : Nat), CR u f p n tx ln → HI f p n (2000000 * (t : Int)) → ln ≤ 60 → rcG X (rcW shC 139 YC) A Q 32 [(3, .int (nI (t))), (2, .int 1), (1, .ref (YC.2.1 0)), (0, .ref b)] [] u := by
  intro r
  induction r with
  | zero => intro t h1 h2; omega
  | succ r ih =>
    intro t ht hr0 u f p n tx ln hu hI hln
    have hn4 := hI.2.2
    refine j_iload_n F.1 dL_law_32 rfl ?_
    refine j_bipush F.1 (30) dL_law_33 (by decide) ?_
    refine j_icmp_ge F.1 270 dL_law_35 (by decide) (fun h35 => ?_) (fun h35 => ?_)
    · refine j_iload_n F.1 dL_law_270 rfl ?_
      exact fin _ _
    · have q35 : t < 30 := Nat.lt_of_not_le (fun z => h35 ((nI_leI (a := 30) (b := t) (by omega) (by omega)).mpr z))
      have T218 : ∀ (y : Int32) (u : rcM) (f p : Nat → Int32) (n : Nat) (tx : Nat → Int32) (ln : Nat), CR u f p n tx ln → HI f p n (2000000 * (t : Int) + 2000000) → ln ≤ 60 → rcG X (rcW shC 139 YC) A Q 218 [(5, .int y), (3, .int (nI t)), (2, .int 1), (1, .ref (YC.2.1 0)), (0, .ref b)] [] u := by
        intro y u f p n tx ln hu hI hln
        refine j_iload_n F.1 dL_law_218 rfl ?_
        refine j_if_eq F.1 264 dL_law_219 (by decide) (fun h219 => False.elim (by revert h219; decide)) (fun _ => ?_)
        refine j_iload_n F.1 dL_law_222 rfl ?_
        refine j_iconst F.1 (4) dL_law_223 (by decide) ?_
        refine j_irem F.1 dL_law_224 (by decide) ?_
        refine j_iconst F.1 (3) dL_law_225 (by decide) ?_
        refine j_icmp_ne F.1 264 dL_law_226 (by decide) (fun h226 => ?_) (fun h226 => ?_)
        · refine j_iinc F.1 (1) dL_law_264 (by decide) rfl (by rw [hn]; decide) ?_
          refine j_goto F.1 32 dL_law_267 (by decide) ?_
          refine j_loc [(3, .int (nI (t + 1))), (2, .int 1), (1, .ref (YC.2.1 0)), (0, .ref b)] (by rw [← nI_1 t]; rfl) ?_
          exact ih (t + 1) (by omega) (by omega) _ _ _ _ _ _ hu (hI.up (by omega)) hln
        · cases n with
          | zero =>
            have he := und_0 (f := f) (p := p)
            refine j_aload_n F.1 dL_law_229 rfl ?_
            refine j_bipush F.1 (8) dL_law_230 (by decide) ?_
            refine g_callV (pt := fun u => u) F hAf rcP.self (c_count hI.2.2 hu) co_X5_count ml_L_13 im_X5_count se_X5_count in_X5 rc_X5_count rfl (by decide) (by decide) ⟨by decide, rfl⟩ rfl rfl (Nat.le_of_ble_eq_true rfl) dL_law_232 (fun r u hr => ?_)
            obtain ⟨rfl, hu⟩ := hr
            refine j_tl ?_
            refine j_top (show S_count _ _ (nI ln) 8 = nI _ from rfl) ?_
            refine j_istore F.1 dL_law_235 (by rw [hn]; decide) ?_
            refine j_aload_n F.1 dL_law_237 rfl ?_
            refine g_callV (pt := fun u => u) F hAf rcP.self (c_undo hI.2.2 hu) co_X5_undo ml_L_86 im_X5_undo se_X5_undo in_X5 rc_X5_undo rfl (by decide) (by decide) ⟨by decide, rfl⟩ rfl rfl (Nat.le_of_ble_eq_true rfl) dL_law_238 (fun r u hr => ?_)
            rw [he] at hr
            obtain ⟨rfl, hu⟩ := hr
            refine j_tl ?_
            refine j_iload F.1 dL_law_241 rfl ?_
            refine j_if_ne F.1 251 dL_law_243 (by decide) (fun h243 => ?_) (fun h243 => ?_)
            · exact absurd nI_0 h243
            · refine g_ldc F cn_L_53 dL_law_246 ?_
              refine j_goto F.1 255 dL_law_248 (by decide) ?_
              refine j_icmp_ne F.1 262 dL_law_255 (by decide) (fun h255 => ?_) (fun h255 => ?_)
              · exact absurd rfl h255
              · refine j_iconst F.1 (1) dL_law_258 (by decide) ?_
                refine j_goto F.1 263 dL_law_259 (by decide) ?_
                refine j_istore_n F.1 dL_law_263 (by rw [hn]; decide) ?_
                refine j_iinc F.1 (1) dL_law_264 (by decide) rfl (by rw [hn]; decide) ?_
                refine j_goto F.1 32 dL_law_267 (by decide) ?_
                refine j_loc [(3, .int (nI (t + 1))), (2, .int 1), (1, .ref (YC.2.1 0)), (0, .ref b)] (by rw [← nI_1 t]; rfl) ?_
                exact ih (t + 1) (by omega) (by omega) _ _ _ _ _ _ hu (hI.up (by omega)) hln
          | succ m =>
            have he := und_s (f := f) (p := p) (m := m)
            have hm4 := hI.2.2
            refine j_aload_n F.1 dL_law_229 rfl ?_
            refine j_bipush F.1 (8) dL_law_230 (by decide) ?_
            refine g_callV (pt := fun u => u) F hAf rcP.self (c_count hI.2.2 hu) co_X5_count ml_L_13 im_X5_count se_X5_count in_X5 rc_X5_count rfl (by decide) (by decide) ⟨by decide, rfl⟩ rfl rfl (Nat.le_of_ble_eq_true rfl) dL_law_232 (fun r u hr => ?_)
            obtain ⟨rfl, hu⟩ := hr
            refine j_tl ?_
            refine j_top (show S_count _ _ (nI ln) 8 = nI _ from rfl) ?_
            refine j_istore F.1 dL_law_235 (by rw [hn]; decide) ?_
            refine j_aload_n F.1 dL_law_237 rfl ?_
            refine g_callV (pt := fun u => u) F hAf rcP.self (c_undo hI.2.2 hu) co_X5_undo ml_L_86 im_X5_undo se_X5_undo in_X5 rc_X5_undo rfl (by decide) (by decide) ⟨by decide, rfl⟩ rfl rfl (Nat.le_of_ble_eq_true rfl) dL_law_238 (fun r u hr => ?_)
            rw [he] at hr
            obtain ⟨rfl, hu⟩ := hr
            refine j_tl ?_
            refine j_iload F.1 dL_law_241 rfl ?_
            refine j_if_ne F.1 251 dL_law_243 (by decide) (fun h243 => ?_) (fun h243 => ?_)
            · refine j_iload F.1 dL_law_251 rfl ?_
              refine j_iconst F.1 (1) dL_law_253 (by decide) ?_
              refine j_isub F.1 dL_law_254 ?_
              refine j_icmp_ne F.1 262 dL_law_255 (by decide) (fun h255 => ?_) (fun h255 => ?_)
              · exact absurd (nI_pred m).symm h255
              · refine j_iconst F.1 (1) dL_law_258 (by decide) ?_
                refine j_goto F.1 263 dL_law_259 (by decide) ?_
                refine j_istore_n F.1 dL_law_263 (by rw [hn]; decide) ?_
                refine j_iinc F.1 (1) dL_law_264 (by decide) rfl (by rw [hn]; decide) ?_
                refine j_goto F.1 32 dL_law_267 (by decide) ?_
                refine j_loc [(3, .int (nI (t + 1))), (2, .int 1), (1, .ref (YC.2.1 0)), (0, .ref b)] (by rw [← nI_1 t]; rfl) ?_
                exact ih (t + 1) (by omega) (by omega) _ _ _ _ _ _ hu (hI.undo.up (by omega)) hln
            · exact absurd h243 (nI_ne0 (by omega) (by omega))
      have T97 : ∀ (y xx : Int32) (u : rcM), CR u f p n tx ln → rcG X (rcW shC 139 YC) A Q 97 [(8, .int (nI n)), (6, .long (digF f)), (5, .int y), (3, .int (nI t)), (2, .int 1), (1, .ref (YC.2.1 0)), (0, .ref b)] [.int xx, .ref (YC.2.1 0)] u := by
        intro y xx u hu
        refine j_iload F.1 dL_law_97 rfl ?_
        refine g_callS (pt := fun u => u) F hAf rcP.self (c_acts hn4 hu hln hI.1 (by omega)) co_L_acts ml_L_97 st_L_acts in_L rc_L_acts rfl (by decide) (by decide) rfl (Nat.le_of_ble_eq_true rfl) dL_law_99 (fun r u hr => ?_)
        obtain ⟨rfl, tx, ln, hln, hA⟩ := hr
        refine j_tl ?_
        refine j_if_eq F.1 116 dL_law_102 (by decide) (fun h102 => ?_) (fun h102 => ?_)
        · exact absurd h102 (by decide)
        · rcases hA with hu | ⟨g, hg, hu⟩
          · refine j_aload_n F.1 dL_law_105 rfl ?_
            refine g_callS (pt := fun u => u) F hAf rcP.self (c_holds hI.2.2 hu hI.1) co_L_holds ml_L_83 st_L_holds in_L rc_L_holds rfl (by decide) (by decide) rfl (Nat.le_of_ble_eq_true rfl) dL_law_106 (fun r u hr => ?_)
            obtain ⟨rfl, hu⟩ := hr
            refine j_tl ?_
            refine j_if_eq F.1 116 dL_law_109 (by decide) (fun h109 => ?_) (fun h109 => ?_)
            · exact absurd h109 (by decide)
            · refine j_iconst F.1 (1) dL_law_112 (by decide) ?_
              refine j_goto F.1 117 dL_law_113 (by decide) ?_
              refine j_istore_n F.1 dL_law_117 (by rw [hn]; decide) ?_
              refine j_aload_n F.1 dL_law_118 rfl ?_
              refine j_bipush F.1 (8) dL_law_119 (by decide) ?_
              refine g_callV (pt := fun u => u) F hAf rcP.self (c_count hI.2.2 hu) co_X5_count ml_L_13 im_X5_count se_X5_count in_X5 rc_X5_count rfl (by decide) (by decide) ⟨by decide, rfl⟩ rfl rfl (Nat.le_of_ble_eq_true rfl) dL_law_121 (fun r u hr => ?_)
              obtain ⟨rfl, hu⟩ := hr
              refine j_tl ?_
              refine j_top (show S_count _ _ (nI ln) 8 = nI n from rfl) ?_
              refine j_istore F.1 dL_law_124 (by rw [hn]; decide) ?_
              refine j_iload_n F.1 dL_law_126 rfl ?_
              refine j_if_eq F.1 166 dL_law_127 (by decide) (fun h127 => False.elim (by revert h127; decide)) (fun _ => ?_)
              refine j_iload F.1 dL_law_130 rfl ?_
              refine j_iload F.1 dL_law_132 rfl ?_
              refine j_icmp_ne F.1 153 dL_law_134 (by decide) (fun h134 => ?_) (fun h134 => ?_)
              · exact absurd rfl h134
              · refine j_iload F.1 dL_law_137 rfl ?_
                refine j_iconst F.1 (4) dL_law_139 (by decide) ?_
                refine j_icmp_eq F.1 162 dL_law_140 (by decide) (fun h140 => ?_) (fun h140 => ?_)
                · refine j_iconst F.1 (1) dL_law_162 (by decide) ?_
                  refine j_goto F.1 167 dL_law_163 (by decide) ?_
                  refine j_istore_n F.1 dL_law_167 (by rw [hn]; decide) ?_
                  refine j_iload_n F.1 dL_law_168 rfl ?_
                  refine j_if_eq F.1 218 dL_law_169 (by decide) (fun h169 => False.elim (by revert h169; decide)) (fun _ => ?_)
                  refine j_iload F.1 dL_law_172 rfl ?_
                  refine j_iload F.1 dL_law_174 rfl ?_
                  refine j_iconst F.1 (1) dL_law_176 (by decide) ?_
                  refine j_iadd F.1 dL_law_177 ?_
                  refine j_icmp_ne F.1 218 dL_law_178 (by decide) (fun h178 => ?_) (fun h178 => ?_)
                  · refine j_loc [(5, .int y), (3, .int (nI t)), (2, .int 1), (1, .ref (YC.2.1 0)), (0, .ref b)] rfl ?_
                    exact T218 _ _ _ _ _ _ _ hu (hI.up (by omega)) hln
                  · exact absurd (Classical.not_not.mp (fun z => z h178)) (n_1 hn4)
                · refine j_aload_n F.1 dL_law_143 rfl ?_
                  refine g_callS (pt := fun u => u) F hAf rcP.self (c_digest hI.2.2 hu hI.1.1) co_L_digest ml_L_93 st_L_digest in_L rc_L_digest rfl (by decide) (by decide) rfl (Nat.le_of_ble_eq_true rfl) dL_law_144 (fun r u hr => ?_)
                  obtain ⟨rfl, hu⟩ := hr
                  refine j_tl ?_
                  refine j_lload F.1 dL_law_147 rfl ?_
                  refine j_lcmp F.1 dL_law_149 ?_
                  refine j_if_eq F.1 162 dL_law_150 (by decide) (fun h150 => ?_) (fun h150 => ?_)
                  · refine j_iconst F.1 (1) dL_law_162 (by decide) ?_
                    refine j_goto F.1 167 dL_law_163 (by decide) ?_
                    refine j_istore_n F.1 dL_law_167 (by rw [hn]; decide) ?_
                    refine j_iload_n F.1 dL_law_168 rfl ?_
                    refine j_if_eq F.1 218 dL_law_169 (by decide) (fun h169 => False.elim (by revert h169; decide)) (fun _ => ?_)
                    refine j_iload F.1 dL_law_172 rfl ?_
                    refine j_iload F.1 dL_law_174 rfl ?_
                    refine j_iconst F.1 (1) dL_law_176 (by decide) ?_
                    refine j_iadd F.1 dL_law_177 ?_
                    refine j_icmp_ne F.1 218 dL_law_178 (by decide) (fun h178 => ?_) (fun h178 => ?_)
                    · refine j_loc [(5, .int y), (3, .int (nI t)), (2, .int 1), (1, .ref (YC.2.1 0)), (0, .ref b)] rfl ?_
                      exact T218 _ _ _ _ _ _ _ hu (hI.up (by omega)) hln
                    · exact absurd (Classical.not_not.mp (fun z => z h178)) (n_1 hn4)
                  · exact absurd (lg_self _) h150
          · have hJ := hI.act (C := 2000000 * (t : Int) + 2000000) (by omega) hg
            rcases Nat.lt_or_ge n 4 with hlt | hge
            · rw [H_n hlt] at hu hJ
              have hK := hI.back (C := 2000000 * (t : Int) + 2000000) (by omega) hlt
              refine j_aload_n F.1 dL_law_105 rfl ?_
              refine g_callS (pt := fun u => u) F hAf rcP.self (c_holds (show n + 1 ≤ 4 by omega) hu hg) co_L_holds ml_L_83 st_L_holds in_L rc_L_holds rfl (by decide) (by decide) rfl (Nat.le_of_ble_eq_true rfl) dL_law_106 (fun r u hr => ?_)
              obtain ⟨rfl, hu⟩ := hr
              refine j_tl ?_
              refine j_if_eq F.1 116 dL_law_109 (by decide) (fun h109 => ?_) (fun h109 => ?_)
              · exact absurd h109 (by decide)
              · refine j_iconst F.1 (1) dL_law_112 (by decide) ?_
                refine j_goto F.1 117 dL_law_113 (by decide) ?_
                refine j_istore_n F.1 dL_law_117 (by rw [hn]; decide) ?_
                refine j_aload_n F.1 dL_law_118 rfl ?_
                refine j_bipush F.1 (8) dL_law_119 (by decide) ?_
                refine g_callV (pt := fun u => u) F hAf rcP.self (c_count (show n + 1 ≤ 4 by omega) hu) co_X5_count ml_L_13 im_X5_count se_X5_count in_X5 rc_X5_count rfl (by decide) (by decide) ⟨by decide, rfl⟩ rfl rfl (Nat.le_of_ble_eq_true rfl) dL_law_121 (fun r u hr => ?_)
                obtain ⟨rfl, hu⟩ := hr
                refine j_tl ?_
                refine j_top (show S_count _ _ (nI ln) 8 = nI (n + 1) from rfl) ?_
                refine j_istore F.1 dL_law_124 (by rw [hn]; decide) ?_
                refine j_iload_n F.1 dL_law_126 rfl ?_
                refine j_if_eq F.1 166 dL_law_127 (by decide) (fun h127 => False.elim (by revert h127; decide)) (fun _ => ?_)
                refine j_iload F.1 dL_law_130 rfl ?_
                refine j_iload F.1 dL_law_132 rfl ?_
                refine j_icmp_ne F.1 153 dL_law_134 (by decide) (fun h134 => ?_) (fun h134 => ?_)
                · refine j_iload F.1 dL_law_153 rfl ?_
                  refine j_iload F.1 dL_law_155 rfl ?_
                  refine j_iconst F.1 (1) dL_law_157 (by decide) ?_
                  refine j_iadd F.1 dL_law_158 ?_
                  refine j_icmp_ne F.1 166 dL_law_159 (by decide) (fun h159 => ?_) (fun h159 => ?_)
                  · exact absurd (nI_1 n).symm h159
                  · refine j_iconst F.1 (1) dL_law_162 (by decide) ?_
                    refine j_goto F.1 167 dL_law_163 (by decide) ?_
                    refine j_istore_n F.1 dL_law_167 (by rw [hn]; decide) ?_
                    refine j_iload_n F.1 dL_law_168 rfl ?_
                    refine j_if_eq F.1 218 dL_law_169 (by decide) (fun h169 => False.elim (by revert h169; decide)) (fun _ => ?_)
                    refine j_iload F.1 dL_law_172 rfl ?_
                    refine j_iload F.1 dL_law_174 rfl ?_
                    refine j_iconst F.1 (1) dL_law_176 (by decide) ?_
                    refine j_iadd F.1 dL_law_177 ?_
                    refine j_icmp_ne F.1 218 dL_law_178 (by decide) (fun h178 => ?_) (fun h178 => ?_)
                    · exact absurd (nI_1 n).symm h178
                    · refine j_iload F.1 dL_law_181 rfl ?_
                      refine j_bipush F.1 (8) dL_law_183 (by decide) ?_
                      refine j_ishr F.1 dL_law_185 ?_
                      refine j_iconst F.1 (2) dL_law_186 (by decide) ?_
                      refine g_callS (pt := fun u => u) F hAf rcP.self (c_low (N := 2) (by decide) (by decide)) co_L_low ml_L_37 st_L_low in_L rc_L_low rfl (by decide) (by decide) rfl (Nat.le_of_ble_eq_true rfl) dL_law_187 (fun r u hr => ?_)
                      obtain ⟨rfl, rfl⟩ := hr
                      refine j_tl ?_
                      refine j_if_ne F.1 218 dL_law_190 (by decide) (fun h190 => ?_) (fun h190 => ?_)
                      · refine j_loc [(5, .int y), (3, .int (nI t)), (2, .int 1), (1, .ref (YC.2.1 0)), (0, .ref b)] rfl ?_
                        exact T218 _ _ _ _ _ _ _ hu (hJ) hln
                      · refine j_aload_n F.1 dL_law_193 rfl ?_
                        refine g_callV (pt := fun u => u) F hAf rcP.self (c_undo (show n + 1 ≤ 4 by omega) hu) co_X5_undo ml_L_86 im_X5_undo se_X5_undo in_X5 rc_X5_undo rfl (by decide) (by decide) ⟨by decide, rfl⟩ rfl rfl (Nat.le_of_ble_eq_true rfl) dL_law_194 (fun r u hr => ?_)
                        rw [und_s] at hr
                        obtain ⟨rfl, hu⟩ := hr
                        have hu := hu.row (g := f) (fun k hk => (put_top hk).symm)
                        refine j_tl ?_
                        refine j_iload F.1 dL_law_197 rfl ?_
                        refine j_icmp_ne F.1 216 dL_law_199 (by decide) (fun h199 => ?_) (fun h199 => ?_)
                        · exact absurd rfl h199
                        · refine j_aload_n F.1 dL_law_202 rfl ?_
                          refine g_callS (pt := fun u => u) F hAf rcP.self (c_digest (show n ≤ 4 by omega) hu hI.1.1) co_L_digest ml_L_93 st_L_digest in_L rc_L_digest rfl (by decide) (by decide) rfl (Nat.le_of_ble_eq_true rfl) dL_law_203 (fun r u hr => ?_)
                          obtain ⟨rfl, hu⟩ := hr
                          refine j_tl ?_
                          refine j_lload F.1 dL_law_206 rfl ?_
                          refine j_lcmp F.1 dL_law_208 ?_
                          refine j_if_ne F.1 216 dL_law_209 (by decide) (fun h209 => ?_) (fun h209 => ?_)
                          · exact absurd (lg_self _) h209
                          · refine j_iconst F.1 (1) dL_law_212 (by decide) ?_
                            refine j_goto F.1 217 dL_law_213 (by decide) ?_
                            refine j_istore_n F.1 dL_law_217 (by rw [hn]; decide) ?_
                            refine j_loc [(5, .int y), (3, .int (nI t)), (2, .int 1), (1, .ref (YC.2.1 0)), (0, .ref b)] rfl ?_
                            exact T218 _ _ _ _ _ _ _ hu (hK) hln
                · exact absurd (Classical.not_not.mp (fun z => z h134)).symm (n_2 hn4)
            · have e4 : n = 4 := by omega
              subst e4
              rw [H_4] at hu hJ
              refine j_aload_n F.1 dL_law_105 rfl ?_
              refine g_callS (pt := fun u => u) F hAf rcP.self (c_holds (Nat.le_refl 4) hu hg) co_L_holds ml_L_83 st_L_holds in_L rc_L_holds rfl (by decide) (by decide) rfl (Nat.le_of_ble_eq_true rfl) dL_law_106 (fun r u hr => ?_)
              obtain ⟨rfl, hu⟩ := hr
              refine j_tl ?_
              refine j_if_eq F.1 116 dL_law_109 (by decide) (fun h109 => ?_) (fun h109 => ?_)
              · exact absurd h109 (by decide)
              · refine j_iconst F.1 (1) dL_law_112 (by decide) ?_
                refine j_goto F.1 117 dL_law_113 (by decide) ?_
                refine j_istore_n F.1 dL_law_117 (by rw [hn]; decide) ?_
                refine j_aload_n F.1 dL_law_118 rfl ?_
                refine j_bipush F.1 (8) dL_law_119 (by decide) ?_
                refine g_callV (pt := fun u => u) F hAf rcP.self (c_count (Nat.le_refl 4) hu) co_X5_count ml_L_13 im_X5_count se_X5_count in_X5 rc_X5_count rfl (by decide) (by decide) ⟨by decide, rfl⟩ rfl rfl (Nat.le_of_ble_eq_true rfl) dL_law_121 (fun r u hr => ?_)
                obtain ⟨rfl, hu⟩ := hr
                refine j_tl ?_
                refine j_top (show S_count _ _ (nI ln) 8 = nI 4 from rfl) ?_
                refine j_istore F.1 dL_law_124 (by rw [hn]; decide) ?_
                refine j_iload_n F.1 dL_law_126 rfl ?_
                refine j_if_eq F.1 166 dL_law_127 (by decide) (fun h127 => False.elim (by revert h127; decide)) (fun _ => ?_)
                refine j_iload F.1 dL_law_130 rfl ?_
                refine j_iload F.1 dL_law_132 rfl ?_
                refine j_icmp_ne F.1 153 dL_law_134 (by decide) (fun h134 => ?_) (fun h134 => ?_)
                · exact absurd rfl h134
                · refine j_iload F.1 dL_law_137 rfl ?_
                  refine j_iconst F.1 (4) dL_law_139 (by decide) ?_
                  refine j_icmp_eq F.1 162 dL_law_140 (by decide) (fun h140 => ?_) (fun h140 => ?_)
                  · refine j_iconst F.1 (1) dL_law_162 (by decide) ?_
                    refine j_goto F.1 167 dL_law_163 (by decide) ?_
                    refine j_istore_n F.1 dL_law_167 (by rw [hn]; decide) ?_
                    refine j_iload_n F.1 dL_law_168 rfl ?_
                    refine j_if_eq F.1 218 dL_law_169 (by decide) (fun h169 => False.elim (by revert h169; decide)) (fun _ => ?_)
                    refine j_iload F.1 dL_law_172 rfl ?_
                    refine j_iload F.1 dL_law_174 rfl ?_
                    refine j_iconst F.1 (1) dL_law_176 (by decide) ?_
                    refine j_iadd F.1 dL_law_177 ?_
                    refine j_icmp_ne F.1 218 dL_law_178 (by decide) (fun h178 => ?_) (fun h178 => ?_)
                    · refine j_loc [(5, .int y), (3, .int (nI t)), (2, .int 1), (1, .ref (YC.2.1 0)), (0, .ref b)] rfl ?_
                      exact T218 _ _ _ _ _ _ _ hu (hJ) hln
                    · exact absurd h178 (by decide)
                  · exact absurd rfl h140
      refine j_iload_n F.1 dL_law_38 rfl ?_
      refine j_if_eq F.1 270 dL_law_39 (by decide) (fun h39 => False.elim (by revert h39; decide)) (fun _ => ?_)
      refine j_aload_n F.1 dL_law_42 rfl ?_
      refine j_iconst F.1 (2) dL_law_43 (by decide) ?_
      refine j_iload_n F.1 dL_law_44 rfl ?_
      refine j_imul F.1 dL_law_45 ?_
      refine j_top (pk_mul 2 t) ?_
      refine g_lot F hL (k := 2 * t) (by omega) hX hbl hbA (by decide) (Nat.le_of_ble_eq_true rfl) dL_law_46 (fun x => ?_)
      refine j_istore F.1 dL_law_49 (by rw [hn]; decide) ?_
      refine j_aload_n F.1 dL_law_51 rfl ?_
      refine j_iconst F.1 (2) dL_law_52 (by decide) ?_
      refine j_iload_n F.1 dL_law_53 rfl ?_
      refine j_imul F.1 dL_law_54 ?_
      refine j_top (pk_mul 2 t) ?_
      refine j_iconst F.1 (1) dL_law_55 (by decide) ?_
      refine j_iadd F.1 dL_law_56 ?_
      refine j_top ((nI_1 (2 * t))) ?_
      refine g_lot F hL (k := 2 * t + 1) (by omega) hX hbl hbA (by decide) (Nat.le_of_ble_eq_true rfl) dL_law_57 (fun y => ?_)
      refine j_istore F.1 dL_law_60 (by rw [hn]; decide) ?_
      refine j_aload_n F.1 dL_law_62 rfl ?_
      refine g_callS (pt := fun u => u) F hAf rcP.self (c_digest hn4 hu hI.1.1) co_L_digest ml_L_93 st_L_digest in_L rc_L_digest rfl (by decide) (by decide) rfl (Nat.le_of_ble_eq_true rfl) dL_law_63 (fun r u hr => ?_)
      obtain ⟨rfl, hu⟩ := hr
      refine j_tl ?_
      refine j_lstore F.1 dL_law_66 (by rw [hn]; decide) ?_
      refine j_aload_n F.1 dL_law_68 rfl ?_
      refine j_bipush F.1 (8) dL_law_69 (by decide) ?_
      refine g_callV (pt := fun u => u) F hAf rcP.self (c_count hn4 hu) co_X5_count ml_L_13 im_X5_count se_X5_count in_X5 rc_X5_count rfl (by decide) (by decide) ⟨by decide, rfl⟩ rfl rfl (Nat.le_of_ble_eq_true rfl) dL_law_71 (fun r u hr => ?_)
      obtain ⟨rfl, hu⟩ := hr
      refine j_tl ?_
      refine j_top (show S_count _ _ (nI ln) 8 = nI n from rfl) ?_
      refine j_istore F.1 dL_law_74 (by rw [hn]; decide) ?_
      refine j_aload_n F.1 dL_law_76 rfl ?_
      refine j_iload_n F.1 dL_law_77 rfl ?_
      refine j_bipush F.1 (8) dL_law_78 (by decide) ?_
      refine j_icmp_ge F.1 95 dL_law_80 (by decide) (fun h80 => ?_) (fun h80 => ?_)
      · refine j_iload F.1 dL_law_95 rfl ?_
        refine j_loc [(8, .int (nI n)), (6, .long (digF f)), (5, .int y), (3, .int (nI t)), (2, .int 1), (1, .ref (YC.2.1 0)), (0, .ref b)] rfl ?_
        exact T97 _ _ _ hu
      · refine j_iload F.1 dL_law_83 rfl ?_
        refine j_bipush F.1 (-16) dL_law_85 (by decide) ?_
        refine j_iand F.1 dL_law_87 ?_
        refine j_iload_n F.1 dL_law_88 rfl ?_
        refine j_iconst F.1 (5) dL_law_89 (by decide) ?_
        refine j_irem F.1 dL_law_90 (by decide) ?_
        refine j_ior F.1 dL_law_91 ?_
        refine j_goto F.1 97 dL_law_92 (by decide) ?_
        refine j_loc [(8, .int (nI n)), (6, .long (digF f)), (5, .int y), (3, .int (nI t)), (2, .int 1), (1, .ref (YC.2.1 0)), (0, .ref b)] rfl ?_
        exact T97 _ _ _ hu
set_option maxHeartbeats 8000000 in
set_option maxRecDepth 100000 in
theorem law_body {X : rcX} {YC : rcY} {A : Nat → Prop} {Q : State → Prop} {b L : Nat} {sx : Nat → Int32} (hL : L ≤ 260) (F : rcF shC 139 YC X cL_law RL ret 60) (hn : xn X = 11) (hAf : ∀ q, rcA 139 YC q → A q) (hX : va_X b L sx (xs X) (xs X).heap) (hbl : b < (xs X).heap.size) (hbA : ¬ A b)
    (fin : ∀ (l : List (Nat × Value)) (v : rcM), rcG X (rcW shC 139 YC) A Q 271 l [.int 1] v) : rcG X (rcW shC 139 YC) A Q 8 [(1, .ref (YC.2.1 0)), (0, .ref b)] [] vC0 := by
  have hu := CR0
  have hI : HI f00 (fun _ => 0) 0 (2000000 * ((0 : Nat) : Int)) := ⟨inv_0.up (by omega), fun j hj => absurd hj (Nat.not_lt_zero j), by decide⟩
  refine j_aload_n F.1 dL_law_8 rfl ?_
  refine g_callS (pt := fun u => u) F hAf rcP.self (c_holds (Nat.zero_le 4) hu hI.1) co_L_holds ml_L_83 st_L_holds in_L rc_L_holds rfl (by decide) (by decide) rfl (Nat.le_of_ble_eq_true rfl) dL_law_9 (fun r u hr => ?_)
  obtain ⟨rfl, hu⟩ := hr
  refine j_tl ?_
  refine j_if_eq F.1 28 dL_law_12 (by decide) (fun h12 => ?_) (fun h12 => ?_)
  · exact absurd h12 (by decide)
  · refine j_aload_n F.1 dL_law_15 rfl ?_
    refine g_callV (pt := fun u => u) F hAf rcP.self (c_undo (Nat.zero_le 4) hu) co_X5_undo ml_L_86 im_X5_undo se_X5_undo in_X5 rc_X5_undo rfl (by decide) (by decide) ⟨by decide, rfl⟩ rfl rfl (Nat.le_of_ble_eq_true rfl) dL_law_16 (fun r u hr => ?_)
    rw [und_0] at hr
    obtain ⟨rfl, hu⟩ := hr
    refine j_tl ?_
    refine g_ldc F cn_L_53 dL_law_19 ?_
    refine j_icmp_ne F.1 28 dL_law_21 (by decide) (fun h21 => ?_) (fun h21 => ?_)
    · exact absurd rfl h21
    · refine j_iconst F.1 (1) dL_law_24 (by decide) ?_
      refine j_goto F.1 29 dL_law_25 (by decide) ?_
      refine j_istore_n F.1 dL_law_29 (by rw [hn]; decide) ?_
      refine j_iconst F.1 (0) dL_law_30 (by decide) ?_
      refine j_istore_n F.1 dL_law_31 (by rw [hn]; decide) ?_
      refine j_loc [(3, .int (nI (0))), (2, .int 1), (1, .ref (YC.2.1 0)), (0, .ref b)] rfl ?_
      exact law_loop hL F hn hAf hX hbl hbA fin 31 0 (by omega) (by omega) _ _ _ _ _ _ hu hI (Nat.zero_le _)
