/-! The law's loop. -/
def lwW (YC YM : rcY) (q : rcM × rcM) (H : Heap) : Prop := rcW shC 139 YC q.1 H ∧ rcW shM 13 YM q.2 H
theorem lw_kept {sh : rcH} {N N2 : Nat} {Y Y2 : rcY} {v : rcM} {H H1 : Heap} (hd : ∀ i j, i < N2 → j < N → Y2.2.1 i ≠ Y.2.1 j) (h : rcW sh N Y v H) (hk : ∀ q : Nat, q < H.size → ¬ rcA N2 Y2 q → H1[q]? = H[q]?) : rcW sh N Y v H1 := by
  refine va_P.kept h (fun k q hkq => hk q.1 (va_at.lt (h k q hkq)) ?_)
  rintro ⟨id, hid, e⟩
  obtain ⟨hk2, rfl⟩ := rcw_lt hkq
  exact hd id k hid hk2 e.symm
theorem lwP_C {YC YM : rcY} {q : rcM × rcM} (hd : ∀ i j, i < 139 → j < 13 → YC.2.1 i ≠ YM.2.1 j) : rcP shC 139 YC (lwW YC YM) q q.1 (fun u => (u, q.2)) :=
  ⟨fun _ h => h.1, fun _ _ _ h hu _ hk => ⟨hu, lw_kept hd h.2 hk⟩⟩
theorem lwP_M {YC YM : rcY} {q : rcM × rcM} (hd : ∀ i j, i < 139 → j < 13 → YC.2.1 i ≠ YM.2.1 j) : rcP shM 13 YM (lwW YC YM) q q.2 (fun u => (q.1, u)) :=
  ⟨fun _ h => h.2, fun _ _ _ h hu _ hk => ⟨lw_kept (fun i j hi hj e => hd j i hj hi e.symm) h.1 hk, hu⟩⟩
section LW
variable {σ : Type} {X : rcX} {cc : ByteArray} {Wd : σ → Heap → Prop} {A : Nat → Prop} {Q : State → Prop} {pc : Nat} {l : List (Nat × Value)} {st : List Value} {v : σ} {b L : Nat} {sc : Nat → Int32}
theorem l_slen (E : rcE X cc) (hX : va_X b L sc (xs X) (xs X).heap) (hbl : b < (xs X).heap.size) (hbA : ¬ A b) (hdg : decode cc pc = .ok (.arraylength, 1)) (k : rcG X Wd A Q (pc + 1) l (.int (nI L) :: st) v) : rcG X Wd A Q pc l (.ref b :: st) v :=
  fun H locs ls hl hw hS => va_slen E.1 E.2 hX hbl hbA hS hdg (k H locs ls hl hw hS)
theorem l_sld (E : rcE X cc) (hX : va_X b L sc (xs X) (xs X).heap) (hbl : b < (xs X).heap.size) (hbA : ¬ A b) {j : Nat} (hj : j < L) (hL : L < 2 ^ 31) (hdg : decode cc pc = .ok (.iaload, 1)) (k : rcG X Wd A Q (pc + 1) l (.int (sc j) :: st) v) : rcG X Wd A Q pc l (.int (nI j) :: .ref b :: st) v :=
  fun H locs ls hl hw hS => va_sld E.1 E.2 hX hbl hbA hS (vp_in_nI hj hL) hdg (by rw [nI_clamp (Nat.lt_trans hj hL)]; exact k H locs ls hl hw hS)
end LW
theorem PI.clr {f p : Nat → Int32} {n ln : Nat} {b : Int} (h : PI f p n ln b) : PI f p n 0 (b + 61) := ⟨(h.up (c := b + 61) (by omega)).1, (h.up (c := b + 61) (by omega)).2.1, h.2.2.1, by decide⟩
theorem KZ.mr {u : rcM} {a : Int32} {f p tx : Nat → Int32} {n ln : Nat} {r : Option Value} (k : KZ a f p n tx ln r u) : r = some (.int a) ∧ MR u f p n tx ln := ⟨k.1, k.2.1, k.2.2.1, k.2.2.2.1, k.2.2.2.2.1, k.2.2.2.2.2⟩
theorem law_i {i L : Nat} (hL : L ≤ 3072) (hi : i ≤ 4000) (h : nI i ≤ nI L - 6) : i + 6 ≤ L := by
  have a := Int32.le_iff_toInt_le.mp h
  have e6 : ((6 : Int32)).toInt = 6 := by decide
  have e : (nI L - 6).toInt = (L : Int) - 6 := by
    rw [Int32.toInt_sub, nI_toInt (by omega), e6]
    exact Int.bmod_eq_of_le (by omega) (by omega)
  rw [e, nI_toInt (by omega)] at a
  omega
set_option maxHeartbeats 8000000 in
set_option maxRecDepth 100000 in
theorem law_loop {X : rcX} {YC YM : rcY} {A : Nat → Prop} {Q : State → Prop} {b L : Nat} {sc : Nat → Int32} (hL : L ≤ 3072) (FC : rcF shC 139 YC X cL_law RL ret 50) (FM : rcF shM 13 YM X cL_law RL ret 50) (hn : xn X = 4)
    (hAC : ∀ q, rcA 139 YC q → A q) (hAM : ∀ q, rcA 13 YM q → A q) (hdis : ∀ i j, i < 139 → j < 13 → YC.2.1 i ≠ YM.2.1 j) (hX : va_X b L sc (xs X) (xs X).heap) (hbl : b < (xs X).heap.size) (hbA : ¬ A b)
    (fin : ∀ (l : List (Nat × Value)) (v : rcM × rcM), rcG X (lwW YC YM) A Q 638 l [.int 1] v) :
    ∀ (r i : Nat), i ≤ L + 5 → L + 6 ≤ i + r → ∀ (vC vM : rcM) (f p : Nat → Int32) (n : Nat) (tx : Nat → Int32) (ln : Nat), CR vC f p n tx ln → MR vM f p n tx ln → PI f p n ln (61 * (i : Int)) → rcG X (lwW YC YM) A Q 18 [(3, .int (nI i)), (0, .ref b), (1, .ref (YC.2.1 0)), (2, .ref (YM.2.1 0))] [] (vC, vM) := by
  have hL31 : L < 2 ^ 31 := by omega
  intro r
  induction r with
  | zero => intro i h1 h2; omega
  | succ r ih =>
    intro i hi hr0 vC vM f p n tx ln hC hM hPI
    obtain ⟨rfl, rfl, hn3, rfl, hl5⟩ := hM
    have hM : MR vM (vM 1) (vM 3) n (vM 4) ln := ⟨rfl, rfl, hn3, rfl, hl5⟩
    have hn4 := hPI.2.2.1
    have hln := hPI.2.2.2
    have hb : (61 * (i : Int)) + 61 < 2 ^ 31 - 1 := by omega
    have hrv : (vM 1 0).toInt < 2 ^ 31 - 1 := by have := hPI.1.2; omega
    have hrv2 : (vM 1 0).toInt + 61 < 2 ^ 31 - 1 := by have := hPI.1.2; omega
    refine j_iload_n FC.1 dL_law_18 rfl ?_
    refine j_aload_n FC.1 dL_law_19 rfl ?_
    refine l_slen FC.1 hX hbl hbA dL_law_20 ?_
    refine j_bipush FC.1 (6) dL_law_21 (by decide) ?_
    refine j_isub FC.1 dL_law_23 ?_
    refine j_icmp_gt FC.1 637 dL_law_24 (by decide) (fun h24 => ?_) (fun h24 => ?_)
    · refine j_iconst FC.1 (1) dL_law_637 (by decide) ?_
      exact fin _ _
    · have hlt : i + 6 ≤ L := law_i (by omega) (by omega) (Int32.not_lt.mp h24)
      have next : ∀ (vC' vM' : rcM) (f' p' : Nat → Int32) (n' : Nat) (tx' : Nat → Int32) (ln' : Nat), CR vC' f' p' n' tx' ln' → MR vM' f' p' n' tx' ln' → PI f' p' n' ln' (61 * (i : Int) + 61) → rcG X (lwW YC YM) A Q 631 [(3, .int (nI i)), (0, .ref b), (1, .ref (YC.2.1 0)), (2, .ref (YM.2.1 0))] [] (vC', vM') := by
        intro vC' vM' f' p' n' tx' ln' hC' hM' hP'
        refine j_iinc FC.1 (6) dL_law_631 (by decide) rfl (by rw [hn]; decide) ?_
        refine j_goto FC.1 18 dL_law_634 (by decide) ?_
        refine j_loc [(3, .int (nI (i + 6))), (0, .ref b), (1, .ref (YC.2.1 0)), (2, .ref (YM.2.1 0))] (by rw [← nI_add]; rfl) ?_
        exact ih (i + 6) (by omega) (by omega) vC' vM' f' p' n' tx' ln' hC' hM' (hP'.up (by omega))
      refine j_aload_n FC.1 dL_law_27 rfl ?_
      refine j_iload_n FC.1 dL_law_28 rfl ?_
      refine l_sld FC.1 hX hbl hbA (j := i) (by omega) hL31 dL_law_29 ?_
      refine j_bipush FC.1 (31) dL_law_30 (by decide) ?_
      refine j_iand FC.1 dL_law_32 ?_
      by_cases k0 : sc i &&& 31 = 0
      · refine j_tableIn FC.1 124 dL_law_33 (by rw [k0]; decide) (by rw [k0]; decide) (by rw [k0]; rfl) (by decide) ?_
        refine j_aload_n FC.1 dL_law_124 rfl ?_
        refine j_aload_n FC.1 dL_law_125 rfl ?_
        refine j_iload_n FC.1 dL_law_126 rfl ?_
        refine j_iconst FC.1 (1) dL_law_127 (by decide) ?_
        refine j_iadd FC.1 dL_law_128 ?_
        refine j_top (y := nI (i + 1)) (nI_add i 1) ?_
        refine l_sld FC.1 hX hbl hbA (j := i + 1) (by omega) hL31 dL_law_129 ?_
        refine j_aload_n FC.1 dL_law_130 rfl ?_
        refine j_iload_n FC.1 dL_law_131 rfl ?_
        refine j_iconst FC.1 (2) dL_law_132 (by decide) ?_
        refine j_iadd FC.1 dL_law_133 ?_
        refine j_top (y := nI (i + 2)) (nI_add i 2) ?_
        refine l_sld FC.1 hX hbl hbA (j := i + 2) (by omega) hL31 dL_law_134 ?_
        refine g_callV FC hAC (lwP_C hdis) (c_define hn4 hC) co_X5_define ml_L_13 im_X5_define se_X5_define in_X5 rc_X5_define rfl (by decide) (by decide) ⟨by decide, rfl⟩ rfl rfl (Nat.le_of_ble_eq_true rfl) dL_law_135 (fun r u hr => ?_)
        obtain ⟨rfl, hC2⟩ := hr
        refine j_tl ?_
        refine j_aload_n FC.1 dL_law_138 rfl ?_
        refine j_aload_n FC.1 dL_law_139 rfl ?_
        refine j_iload_n FC.1 dL_law_140 rfl ?_
        refine j_iconst FC.1 (1) dL_law_141 (by decide) ?_
        refine j_iadd FC.1 dL_law_142 ?_
        refine j_top (y := nI (i + 1)) (nI_add i 1) ?_
        refine l_sld FC.1 hX hbl hbA (j := i + 1) (by omega) hL31 dL_law_143 ?_
        refine j_aload_n FC.1 dL_law_144 rfl ?_
        refine j_iload_n FC.1 dL_law_145 rfl ?_
        refine j_iconst FC.1 (2) dL_law_146 (by decide) ?_
        refine j_iadd FC.1 dL_law_147 ?_
        refine j_top (y := nI (i + 2)) (nI_add i 2) ?_
        refine l_sld FC.1 hX hbl hbA (j := i + 2) (by omega) hL31 dL_law_148 ?_
        refine g_callV FM hAM (lwP_M hdis) (k_define hn4 hn3) co_X6_define ml_L_17 im_X6_define se_X6_define in_X6 rc_X6_define rfl (by decide) (by decide) ⟨by decide, rfl⟩ rfl rfl (Nat.le_of_ble_eq_true rfl) dL_law_149 (fun r u2 hr => ?_)
        have hr := define_KQ hPI.1.1 hrv hn3 hr
        obtain ⟨rfl, hM2⟩ := KQ.mr hM hr
        refine j_tl ?_
        refine j_icmp_eq FC.1 631 dL_law_152 (by decide) (fun _ => ?_) (fun h => absurd rfl h)
        exact next _ _ _ _ _ _ _ hC2 hM2 (pi_define hPI hb)
      by_cases k1 : sc i &&& 31 = 1
      · refine j_tableIn FC.1 157 dL_law_33 (by rw [k1]; decide) (by rw [k1]; decide) (by rw [k1]; rfl) (by decide) ?_
        refine j_aload_n FC.1 dL_law_157 rfl ?_
        refine j_aload_n FC.1 dL_law_158 rfl ?_
        refine j_iload_n FC.1 dL_law_159 rfl ?_
        refine j_iconst FC.1 (1) dL_law_160 (by decide) ?_
        refine j_iadd FC.1 dL_law_161 ?_
        refine j_top (y := nI (i + 1)) (nI_add i 1) ?_
        refine l_sld FC.1 hX hbl hbA (j := i + 1) (by omega) hL31 dL_law_162 ?_
        refine j_aload_n FC.1 dL_law_163 rfl ?_
        refine j_iload_n FC.1 dL_law_164 rfl ?_
        refine j_iconst FC.1 (2) dL_law_165 (by decide) ?_
        refine j_iadd FC.1 dL_law_166 ?_
        refine j_top (y := nI (i + 2)) (nI_add i 2) ?_
        refine l_sld FC.1 hX hbl hbA (j := i + 2) (by omega) hL31 dL_law_167 ?_
        refine j_aload_n FC.1 dL_law_168 rfl ?_
        refine j_iload_n FC.1 dL_law_169 rfl ?_
        refine j_iconst FC.1 (3) dL_law_170 (by decide) ?_
        refine j_iadd FC.1 dL_law_171 ?_
        refine j_top (y := nI (i + 3)) (nI_add i 3) ?_
        refine l_sld FC.1 hX hbl hbA (j := i + 3) (by omega) hL31 dL_law_172 ?_
        refine j_aload_n FC.1 dL_law_173 rfl ?_
        refine j_iload_n FC.1 dL_law_174 rfl ?_
        refine j_iconst FC.1 (4) dL_law_175 (by decide) ?_
        refine j_iadd FC.1 dL_law_176 ?_
        refine j_top (y := nI (i + 4)) (nI_add i 4) ?_
        refine l_sld FC.1 hX hbl hbA (j := i + 4) (by omega) hL31 dL_law_177 ?_
        refine j_aload_n FC.1 dL_law_178 rfl ?_
        refine j_iload_n FC.1 dL_law_179 rfl ?_
        refine j_iconst FC.1 (5) dL_law_180 (by decide) ?_
        refine j_iadd FC.1 dL_law_181 ?_
        refine j_top (y := nI (i + 5)) (nI_add i 5) ?_
        refine l_sld FC.1 hX hbl hbA (j := i + 5) (by omega) hL31 dL_law_182 ?_
        refine g_callV FC hAC (lwP_C hdis) (c_formula hn4 hC) co_X5_formula ml_L_18 im_X5_formula se_X5_formula in_X5 rc_X5_formula rfl (by decide) (by decide) ⟨by decide, rfl⟩ rfl rfl (Nat.le_of_ble_eq_true rfl) dL_law_183 (fun r u hr => ?_)
        obtain ⟨rfl, hC2⟩ := hr
        refine j_tl ?_
        refine j_aload_n FC.1 dL_law_186 rfl ?_
        refine j_aload_n FC.1 dL_law_187 rfl ?_
        refine j_iload_n FC.1 dL_law_188 rfl ?_
        refine j_iconst FC.1 (1) dL_law_189 (by decide) ?_
        refine j_iadd FC.1 dL_law_190 ?_
        refine j_top (y := nI (i + 1)) (nI_add i 1) ?_
        refine l_sld FC.1 hX hbl hbA (j := i + 1) (by omega) hL31 dL_law_191 ?_
        refine j_aload_n FC.1 dL_law_192 rfl ?_
        refine j_iload_n FC.1 dL_law_193 rfl ?_
        refine j_iconst FC.1 (2) dL_law_194 (by decide) ?_
        refine j_iadd FC.1 dL_law_195 ?_
        refine j_top (y := nI (i + 2)) (nI_add i 2) ?_
        refine l_sld FC.1 hX hbl hbA (j := i + 2) (by omega) hL31 dL_law_196 ?_
        refine j_aload_n FC.1 dL_law_197 rfl ?_
        refine j_iload_n FC.1 dL_law_198 rfl ?_
        refine j_iconst FC.1 (3) dL_law_199 (by decide) ?_
        refine j_iadd FC.1 dL_law_200 ?_
        refine j_top (y := nI (i + 3)) (nI_add i 3) ?_
        refine l_sld FC.1 hX hbl hbA (j := i + 3) (by omega) hL31 dL_law_201 ?_
        refine j_aload_n FC.1 dL_law_202 rfl ?_
        refine j_iload_n FC.1 dL_law_203 rfl ?_
        refine j_iconst FC.1 (4) dL_law_204 (by decide) ?_
        refine j_iadd FC.1 dL_law_205 ?_
        refine j_top (y := nI (i + 4)) (nI_add i 4) ?_
        refine l_sld FC.1 hX hbl hbA (j := i + 4) (by omega) hL31 dL_law_206 ?_
        refine j_aload_n FC.1 dL_law_207 rfl ?_
        refine j_iload_n FC.1 dL_law_208 rfl ?_
        refine j_iconst FC.1 (5) dL_law_209 (by decide) ?_
        refine j_iadd FC.1 dL_law_210 ?_
        refine j_top (y := nI (i + 5)) (nI_add i 5) ?_
        refine l_sld FC.1 hX hbl hbA (j := i + 5) (by omega) hL31 dL_law_211 ?_
        refine g_callV FM hAM (lwP_M hdis) (k_formula hn4 hn3) co_X6_formula ml_L_22 im_X6_formula se_X6_formula in_X6 rc_X6_formula rfl (by decide) (by decide) ⟨by decide, rfl⟩ rfl rfl (Nat.le_of_ble_eq_true rfl) dL_law_212 (fun r u2 hr => ?_)
        have hr := formula_KQ hPI.1.1 hrv hn3 hr
        obtain ⟨rfl, hM2⟩ := KQ.mr hM hr
        refine j_tl ?_
        refine j_icmp_eq FC.1 631 dL_law_215 (by decide) (fun _ => ?_) (fun h => absurd rfl h)
        exact next _ _ _ _ _ _ _ hC2 hM2 (pi_formula hPI hb)
      by_cases k2 : sc i &&& 31 = 2
      · refine j_tableIn FC.1 220 dL_law_33 (by rw [k2]; decide) (by rw [k2]; decide) (by rw [k2]; rfl) (by decide) ?_
        refine j_aload_n FC.1 dL_law_220 rfl ?_
        refine j_aload_n FC.1 dL_law_221 rfl ?_
        refine j_iload_n FC.1 dL_law_222 rfl ?_
        refine j_iconst FC.1 (1) dL_law_223 (by decide) ?_
        refine j_iadd FC.1 dL_law_224 ?_
        refine j_top (y := nI (i + 1)) (nI_add i 1) ?_
        refine l_sld FC.1 hX hbl hbA (j := i + 1) (by omega) hL31 dL_law_225 ?_
        refine j_aload_n FC.1 dL_law_226 rfl ?_
        refine j_iload_n FC.1 dL_law_227 rfl ?_
        refine j_iconst FC.1 (2) dL_law_228 (by decide) ?_
        refine j_iadd FC.1 dL_law_229 ?_
        refine j_top (y := nI (i + 2)) (nI_add i 2) ?_
        refine l_sld FC.1 hX hbl hbA (j := i + 2) (by omega) hL31 dL_law_230 ?_
        refine g_callV FC hAC (lwP_C hdis) (c_cellOf hn4 hC) co_X5_cellOf ml_L_23 im_X5_cellOf se_X5_cellOf in_X5 rc_X5_cellOf rfl (by decide) (by decide) ⟨by decide, rfl⟩ rfl rfl (Nat.le_of_ble_eq_true rfl) dL_law_231 (fun r u hr => ?_)
        obtain ⟨rfl, hC2⟩ := hr
        refine j_tl ?_
        refine j_aload_n FC.1 dL_law_234 rfl ?_
        refine j_aload_n FC.1 dL_law_235 rfl ?_
        refine j_iload_n FC.1 dL_law_236 rfl ?_
        refine j_iconst FC.1 (1) dL_law_237 (by decide) ?_
        refine j_iadd FC.1 dL_law_238 ?_
        refine j_top (y := nI (i + 1)) (nI_add i 1) ?_
        refine l_sld FC.1 hX hbl hbA (j := i + 1) (by omega) hL31 dL_law_239 ?_
        refine j_aload_n FC.1 dL_law_240 rfl ?_
        refine j_iload_n FC.1 dL_law_241 rfl ?_
        refine j_iconst FC.1 (2) dL_law_242 (by decide) ?_
        refine j_iadd FC.1 dL_law_243 ?_
        refine j_top (y := nI (i + 2)) (nI_add i 2) ?_
        refine l_sld FC.1 hX hbl hbA (j := i + 2) (by omega) hL31 dL_law_244 ?_
        refine g_callV FM hAM (lwP_M hdis) (k_cellOf) co_X6_cellOf ml_L_26 im_X6_cellOf se_X6_cellOf in_X6 rc_X6_cellOf rfl (by decide) (by decide) ⟨by decide, rfl⟩ rfl rfl (Nat.le_of_ble_eq_true rfl) dL_law_245 (fun r u2 hr => ?_)
        obtain ⟨rfl, rfl⟩ := hr
        have hM2 := hM
        refine j_tl ?_
        refine j_icmp_eq FC.1 631 dL_law_248 (by decide) (fun _ => ?_) (fun h => absurd rfl h)
        exact next _ _ _ _ _ _ _ hC2 hM2 (pi_no (a := 0) hPI)
      by_cases k3 : sc i &&& 31 = 3
      · refine j_tableIn FC.1 253 dL_law_33 (by rw [k3]; decide) (by rw [k3]; decide) (by rw [k3]; rfl) (by decide) ?_
        refine j_aload_n FC.1 dL_law_253 rfl ?_
        refine j_aload_n FC.1 dL_law_254 rfl ?_
        refine j_iload_n FC.1 dL_law_255 rfl ?_
        refine j_iconst FC.1 (1) dL_law_256 (by decide) ?_
        refine j_iadd FC.1 dL_law_257 ?_
        refine j_top (y := nI (i + 1)) (nI_add i 1) ?_
        refine l_sld FC.1 hX hbl hbA (j := i + 1) (by omega) hL31 dL_law_258 ?_
        refine g_callV FC hAC (lwP_C hdis) (c_ask hn4 hC hPI.1.1) co_X5_ask ml_L_27 im_X5_ask se_X5_ask in_X5 rc_X5_ask rfl (by decide) (by decide) ⟨by decide, rfl⟩ rfl rfl (Nat.le_of_ble_eq_true rfl) dL_law_259 (fun r u hr => ?_)
        obtain ⟨rfl, hC2⟩ := hr
        refine j_tl ?_
        refine j_aload_n FC.1 dL_law_262 rfl ?_
        refine j_aload_n FC.1 dL_law_263 rfl ?_
        refine j_iload_n FC.1 dL_law_264 rfl ?_
        refine j_iconst FC.1 (1) dL_law_265 (by decide) ?_
        refine j_iadd FC.1 dL_law_266 ?_
        refine j_top (y := nI (i + 1)) (nI_add i 1) ?_
        refine l_sld FC.1 hX hbl hbA (j := i + 1) (by omega) hL31 dL_law_267 ?_
        refine g_callV FM hAM (lwP_M hdis) (k_ask hn4 hn3 hPI.1.1) co_X6_ask ml_L_31 im_X6_ask se_X6_ask in_X6 rc_X6_ask rfl (by decide) (by decide) ⟨by decide, rfl⟩ rfl rfl (Nat.le_of_ble_eq_true rfl) dL_law_268 (fun r u2 hr => ?_)
        obtain ⟨rfl, hM2⟩ := KQ.mr hM hr
        refine j_tl ?_
        refine j_icmp_eq FC.1 631 dL_law_271 (by decide) (fun _ => ?_) (fun h => absurd rfl h)
        exact next _ _ _ _ _ _ _ hC2 hM2 (pi_ask hPI)
      by_cases k4 : sc i &&& 31 = 4
      · refine j_tableIn FC.1 276 dL_law_33 (by rw [k4]; decide) (by rw [k4]; decide) (by rw [k4]; rfl) (by decide) ?_
        refine j_aload_n FC.1 dL_law_276 rfl ?_
        refine j_aload_n FC.1 dL_law_277 rfl ?_
        refine j_iload_n FC.1 dL_law_278 rfl ?_
        refine j_iconst FC.1 (1) dL_law_279 (by decide) ?_
        refine j_iadd FC.1 dL_law_280 ?_
        refine j_top (y := nI (i + 1)) (nI_add i 1) ?_
        refine l_sld FC.1 hX hbl hbA (j := i + 1) (by omega) hL31 dL_law_281 ?_
        refine g_callV FC hAC (lwP_C hdis) (c_fresh hn4 hC hPI.1.1) co_X5_fresh ml_L_32 im_X5_fresh se_X5_fresh in_X5 rc_X5_fresh rfl (by decide) (by decide) ⟨by decide, rfl⟩ rfl rfl (Nat.le_of_ble_eq_true rfl) dL_law_282 (fun r u hr => ?_)
        obtain ⟨rfl, hC2⟩ := hr
        refine j_tl ?_
        refine j_aload_n FC.1 dL_law_285 rfl ?_
        refine j_aload_n FC.1 dL_law_286 rfl ?_
        refine j_iload_n FC.1 dL_law_287 rfl ?_
        refine j_iconst FC.1 (1) dL_law_288 (by decide) ?_
        refine j_iadd FC.1 dL_law_289 ?_
        refine j_top (y := nI (i + 1)) (nI_add i 1) ?_
        refine l_sld FC.1 hX hbl hbA (j := i + 1) (by omega) hL31 dL_law_290 ?_
        refine g_callV FM hAM (lwP_M hdis) (k_fresh hn3 hPI.1.1.wd) co_X6_fresh ml_L_35 im_X6_fresh se_X6_fresh in_X6 rc_X6_fresh rfl (by decide) (by decide) ⟨by decide, rfl⟩ rfl rfl (Nat.le_of_ble_eq_true rfl) dL_law_291 (fun r u2 hr => ?_)
        obtain ⟨rfl, hM2⟩ := KQ.mr hM hr
        refine j_tl ?_
        refine j_icmp_eq FC.1 631 dL_law_294 (by decide) (fun _ => ?_) (fun h => absurd rfl h)
        exact next _ _ _ _ _ _ _ hC2 hM2 (pi_no (a := 0) hPI)
      by_cases k5 : sc i &&& 31 = 5
      · refine j_tableIn FC.1 299 dL_law_33 (by rw [k5]; decide) (by rw [k5]; decide) (by rw [k5]; rfl) (by decide) ?_
        refine j_aload_n FC.1 dL_law_299 rfl ?_
        refine j_aload_n FC.1 dL_law_300 rfl ?_
        refine j_iload_n FC.1 dL_law_301 rfl ?_
        refine j_iconst FC.1 (1) dL_law_302 (by decide) ?_
        refine j_iadd FC.1 dL_law_303 ?_
        refine j_top (y := nI (i + 1)) (nI_add i 1) ?_
        refine l_sld FC.1 hX hbl hbA (j := i + 1) (by omega) hL31 dL_law_304 ?_
        refine j_aload_n FC.1 dL_law_305 rfl ?_
        refine j_iload_n FC.1 dL_law_306 rfl ?_
        refine j_iconst FC.1 (2) dL_law_307 (by decide) ?_
        refine j_iadd FC.1 dL_law_308 ?_
        refine j_top (y := nI (i + 2)) (nI_add i 2) ?_
        refine l_sld FC.1 hX hbl hbA (j := i + 2) (by omega) hL31 dL_law_309 ?_
        refine g_callV FC hAC (lwP_C hdis) (c_cost hn4 hC hPI.1.1) co_X5_cost ml_L_36 im_X5_cost se_X5_cost in_X5 rc_X5_cost rfl (by decide) (by decide) ⟨by decide, rfl⟩ rfl rfl (Nat.le_of_ble_eq_true rfl) dL_law_310 (fun r u hr => ?_)
        obtain ⟨rfl, hC2⟩ := hr
        refine j_tl ?_
        refine j_aload_n FC.1 dL_law_313 rfl ?_
        refine j_aload_n FC.1 dL_law_314 rfl ?_
        refine j_iload_n FC.1 dL_law_315 rfl ?_
        refine j_iconst FC.1 (1) dL_law_316 (by decide) ?_
        refine j_iadd FC.1 dL_law_317 ?_
        refine j_top (y := nI (i + 1)) (nI_add i 1) ?_
        refine l_sld FC.1 hX hbl hbA (j := i + 1) (by omega) hL31 dL_law_318 ?_
        refine j_aload_n FC.1 dL_law_319 rfl ?_
        refine j_iload_n FC.1 dL_law_320 rfl ?_
        refine j_iconst FC.1 (2) dL_law_321 (by decide) ?_
        refine j_iadd FC.1 dL_law_322 ?_
        refine j_top (y := nI (i + 2)) (nI_add i 2) ?_
        refine l_sld FC.1 hX hbl hbA (j := i + 2) (by omega) hL31 dL_law_323 ?_
        refine g_callV FM hAM (lwP_M hdis) (k_cost hn4 hn3 hPI.1.1) co_X6_cost ml_L_39 im_X6_cost se_X6_cost in_X6 rc_X6_cost rfl (by decide) (by decide) ⟨by decide, rfl⟩ rfl rfl (Nat.le_of_ble_eq_true rfl) dL_law_324 (fun r u2 hr => ?_)
        obtain ⟨rfl, hM2⟩ := KQ.mr hM hr
        refine j_tl ?_
        refine j_icmp_eq FC.1 631 dL_law_327 (by decide) (fun _ => ?_) (fun h => absurd rfl h)
        exact next _ _ _ _ _ _ _ hC2 hM2 (pi_cost hPI)
      by_cases k6 : sc i &&& 31 = 6
      · refine j_tableIn FC.1 332 dL_law_33 (by rw [k6]; decide) (by rw [k6]; decide) (by rw [k6]; rfl) (by decide) ?_
        refine j_aload_n FC.1 dL_law_332 rfl ?_
        refine j_aload_n FC.1 dL_law_333 rfl ?_
        refine j_iload_n FC.1 dL_law_334 rfl ?_
        refine j_iconst FC.1 (1) dL_law_335 (by decide) ?_
        refine j_iadd FC.1 dL_law_336 ?_
        refine j_top (y := nI (i + 1)) (nI_add i 1) ?_
        refine l_sld FC.1 hX hbl hbA (j := i + 1) (by omega) hL31 dL_law_337 ?_
        refine g_callV FC hAC (lwP_C hdis) (c_forget hn4 hC) co_X5_forget ml_L_40 im_X5_forget se_X5_forget in_X5 rc_X5_forget rfl (by decide) (by decide) ⟨by decide, rfl⟩ rfl rfl (Nat.le_of_ble_eq_true rfl) dL_law_338 (fun r u hr => ?_)
        obtain ⟨rfl, hC2⟩ := hr
        refine j_tl ?_
        refine j_aload_n FC.1 dL_law_341 rfl ?_
        refine j_aload_n FC.1 dL_law_342 rfl ?_
        refine j_iload_n FC.1 dL_law_343 rfl ?_
        refine j_iconst FC.1 (1) dL_law_344 (by decide) ?_
        refine j_iadd FC.1 dL_law_345 ?_
        refine j_top (y := nI (i + 1)) (nI_add i 1) ?_
        refine l_sld FC.1 hX hbl hbA (j := i + 1) (by omega) hL31 dL_law_346 ?_
        refine g_callV FM hAM (lwP_M hdis) (k_forget hn4 hn3 hPI.1.1) co_X6_forget ml_L_43 im_X6_forget se_X6_forget in_X6 rc_X6_forget rfl (by decide) (by decide) ⟨by decide, rfl⟩ rfl rfl (Nat.le_of_ble_eq_true rfl) dL_law_347 (fun r u2 hr => ?_)
        obtain ⟨rfl, hM2⟩ := KQ.mr hM hr
        refine j_tl ?_
        refine j_icmp_eq FC.1 631 dL_law_350 (by decide) (fun _ => ?_) (fun h => absurd rfl h)
        exact next _ _ _ _ _ _ _ hC2 hM2 (pi_forget hPI)
      by_cases k7 : sc i &&& 31 = 7
      · refine j_tableIn FC.1 355 dL_law_33 (by rw [k7]; decide) (by rw [k7]; decide) (by rw [k7]; rfl) (by decide) ?_
        refine j_aload_n FC.1 dL_law_355 rfl ?_
        refine j_aload_n FC.1 dL_law_356 rfl ?_
        refine j_iload_n FC.1 dL_law_357 rfl ?_
        refine j_iconst FC.1 (1) dL_law_358 (by decide) ?_
        refine j_iadd FC.1 dL_law_359 ?_
        refine j_top (y := nI (i + 1)) (nI_add i 1) ?_
        refine l_sld FC.1 hX hbl hbA (j := i + 1) (by omega) hL31 dL_law_360 ?_
        refine g_callV FC hAC (lwP_C hdis) (c_bound hn4 hC) co_X5_bound ml_L_44 im_X5_bound se_X5_bound in_X5 rc_X5_bound rfl (by decide) (by decide) ⟨by decide, rfl⟩ rfl rfl (Nat.le_of_ble_eq_true rfl) dL_law_361 (fun r u hr => ?_)
        obtain ⟨rfl, hC2⟩ := hr
        refine j_tl ?_
        refine j_aload_n FC.1 dL_law_364 rfl ?_
        refine j_aload_n FC.1 dL_law_365 rfl ?_
        refine j_iload_n FC.1 dL_law_366 rfl ?_
        refine j_iconst FC.1 (1) dL_law_367 (by decide) ?_
        refine j_iadd FC.1 dL_law_368 ?_
        refine j_top (y := nI (i + 1)) (nI_add i 1) ?_
        refine l_sld FC.1 hX hbl hbA (j := i + 1) (by omega) hL31 dL_law_369 ?_
        refine g_callV FM hAM (lwP_M hdis) (k_bound hn4 hn3 hPI.1.1) co_X6_bound ml_L_47 im_X6_bound se_X6_bound in_X6 rc_X6_bound rfl (by decide) (by decide) ⟨by decide, rfl⟩ rfl rfl (Nat.le_of_ble_eq_true rfl) dL_law_370 (fun r u2 hr => ?_)
        obtain ⟨rfl, hM2⟩ := KQ.mr hM hr
        refine j_tl ?_
        refine j_icmp_eq FC.1 631 dL_law_373 (by decide) (fun _ => ?_) (fun h => absurd rfl h)
        exact next _ _ _ _ _ _ _ hC2 hM2 (pi_bound hPI)
      by_cases k8 : sc i &&& 31 = 8
      · refine j_tableIn FC.1 378 dL_law_33 (by rw [k8]; decide) (by rw [k8]; decide) (by rw [k8]; rfl) (by decide) ?_
        refine j_aload_n FC.1 dL_law_378 rfl ?_
        refine j_aload_n FC.1 dL_law_379 rfl ?_
        refine j_iload_n FC.1 dL_law_380 rfl ?_
        refine j_iconst FC.1 (1) dL_law_381 (by decide) ?_
        refine j_iadd FC.1 dL_law_382 ?_
        refine j_top (y := nI (i + 1)) (nI_add i 1) ?_
        refine l_sld FC.1 hX hbl hbA (j := i + 1) (by omega) hL31 dL_law_383 ?_
        refine j_aload_n FC.1 dL_law_384 rfl ?_
        refine j_iload_n FC.1 dL_law_385 rfl ?_
        refine j_iconst FC.1 (2) dL_law_386 (by decide) ?_
        refine j_iadd FC.1 dL_law_387 ?_
        refine j_top (y := nI (i + 2)) (nI_add i 2) ?_
        refine l_sld FC.1 hX hbl hbA (j := i + 2) (by omega) hL31 dL_law_388 ?_
        refine g_callV FC hAC (lwP_C hdis) (c_rememberedOf hn4 hC hPI.1.1) co_X5_rememberedOf ml_L_48 im_X5_rememberedOf se_X5_rememberedOf in_X5 rc_X5_rememberedOf rfl (by decide) (by decide) ⟨by decide, rfl⟩ rfl rfl (Nat.le_of_ble_eq_true rfl) dL_law_389 (fun r u hr => ?_)
        obtain ⟨rfl, hC2⟩ := hr
        refine j_tl ?_
        refine j_aload_n FC.1 dL_law_392 rfl ?_
        refine j_aload_n FC.1 dL_law_393 rfl ?_
        refine j_iload_n FC.1 dL_law_394 rfl ?_
        refine j_iconst FC.1 (1) dL_law_395 (by decide) ?_
        refine j_iadd FC.1 dL_law_396 ?_
        refine j_top (y := nI (i + 1)) (nI_add i 1) ?_
        refine l_sld FC.1 hX hbl hbA (j := i + 1) (by omega) hL31 dL_law_397 ?_
        refine j_aload_n FC.1 dL_law_398 rfl ?_
        refine j_iload_n FC.1 dL_law_399 rfl ?_
        refine j_iconst FC.1 (2) dL_law_400 (by decide) ?_
        refine j_iadd FC.1 dL_law_401 ?_
        refine j_top (y := nI (i + 2)) (nI_add i 2) ?_
        refine l_sld FC.1 hX hbl hbA (j := i + 2) (by omega) hL31 dL_law_402 ?_
        refine g_callV FM hAM (lwP_M hdis) (k_rememberedOf hn4 hn3) co_X6_rememberedOf ml_L_51 im_X6_rememberedOf se_X6_rememberedOf in_X6 rc_X6_rememberedOf rfl (by decide) (by decide) ⟨by decide, rfl⟩ rfl rfl (Nat.le_of_ble_eq_true rfl) dL_law_403 (fun r u2 hr => ?_)
        obtain ⟨rfl, hM2⟩ := KQ.mr hM hr
        refine j_tl ?_
        refine j_icmp_eq FC.1 631 dL_law_406 (by decide) (fun _ => ?_) (fun h => absurd rfl h)
        exact next _ _ _ _ _ _ _ hC2 hM2 (pi_remOf hPI)
      by_cases k9 : sc i &&& 31 = 9
      · refine j_tableIn FC.1 411 dL_law_33 (by rw [k9]; decide) (by rw [k9]; decide) (by rw [k9]; rfl) (by decide) ?_
        refine j_aload_n FC.1 dL_law_411 rfl ?_
        refine j_aload_n FC.1 dL_law_412 rfl ?_
        refine j_iload_n FC.1 dL_law_413 rfl ?_
        refine j_iconst FC.1 (1) dL_law_414 (by decide) ?_
        refine j_iadd FC.1 dL_law_415 ?_
        refine j_top (y := nI (i + 1)) (nI_add i 1) ?_
        refine l_sld FC.1 hX hbl hbA (j := i + 1) (by omega) hL31 dL_law_416 ?_
        refine g_callV FC hAC (lwP_C hdis) (c_which hn4 hC hPI.1.1) co_X5_which ml_L_52 im_X5_which se_X5_which in_X5 rc_X5_which rfl (by decide) (by decide) ⟨by decide, rfl⟩ rfl rfl (Nat.le_of_ble_eq_true rfl) dL_law_417 (fun r u hr => ?_)
        obtain ⟨rfl, hC2⟩ := hr
        refine j_tl ?_
        refine j_aload_n FC.1 dL_law_420 rfl ?_
        refine j_aload_n FC.1 dL_law_421 rfl ?_
        refine j_iload_n FC.1 dL_law_422 rfl ?_
        refine j_iconst FC.1 (1) dL_law_423 (by decide) ?_
        refine j_iadd FC.1 dL_law_424 ?_
        refine j_top (y := nI (i + 1)) (nI_add i 1) ?_
        refine l_sld FC.1 hX hbl hbA (j := i + 1) (by omega) hL31 dL_law_425 ?_
        refine g_callV FM hAM (lwP_M hdis) (k_which hn3 hPI.1.1.wd) co_X6_which ml_L_55 im_X6_which se_X6_which in_X6 rc_X6_which rfl (by decide) (by decide) ⟨by decide, rfl⟩ rfl rfl (Nat.le_of_ble_eq_true rfl) dL_law_426 (fun r u2 hr => ?_)
        obtain ⟨rfl, hM2⟩ := KQ.mr hM hr
        refine j_tl ?_
        refine j_icmp_eq FC.1 631 dL_law_429 (by decide) (fun _ => ?_) (fun h => absurd rfl h)
        exact next _ _ _ _ _ _ _ hC2 hM2 (pi_no (a := 0) hPI)
      by_cases k10 : sc i &&& 31 = 10
      · refine j_tableIn FC.1 434 dL_law_33 (by rw [k10]; decide) (by rw [k10]; decide) (by rw [k10]; rfl) (by decide) ?_
        refine j_aload_n FC.1 dL_law_434 rfl ?_
        refine j_aload_n FC.1 dL_law_435 rfl ?_
        refine j_iload_n FC.1 dL_law_436 rfl ?_
        refine j_iconst FC.1 (1) dL_law_437 (by decide) ?_
        refine j_iadd FC.1 dL_law_438 ?_
        refine j_top (y := nI (i + 1)) (nI_add i 1) ?_
        refine l_sld FC.1 hX hbl hbA (j := i + 1) (by omega) hL31 dL_law_439 ?_
        refine g_callV FC hAC (lwP_C hdis) (c_used hn4 hC hPI.1.1) co_X5_used ml_L_56 im_X5_used se_X5_used in_X5 rc_X5_used rfl (by decide) (by decide) ⟨by decide, rfl⟩ rfl rfl (Nat.le_of_ble_eq_true rfl) dL_law_440 (fun r u hr => ?_)
        obtain ⟨rfl, hC2⟩ := hr
        refine j_tl ?_
        refine j_aload_n FC.1 dL_law_443 rfl ?_
        refine j_aload_n FC.1 dL_law_444 rfl ?_
        refine j_iload_n FC.1 dL_law_445 rfl ?_
        refine j_iconst FC.1 (1) dL_law_446 (by decide) ?_
        refine j_iadd FC.1 dL_law_447 ?_
        refine j_top (y := nI (i + 1)) (nI_add i 1) ?_
        refine l_sld FC.1 hX hbl hbA (j := i + 1) (by omega) hL31 dL_law_448 ?_
        refine g_callV FM hAM (lwP_M hdis) (k_used hn3 hPI.1.1.wd) co_X6_used ml_L_59 im_X6_used se_X6_used in_X6 rc_X6_used rfl (by decide) (by decide) ⟨by decide, rfl⟩ rfl rfl (Nat.le_of_ble_eq_true rfl) dL_law_449 (fun r u2 hr => ?_)
        obtain ⟨rfl, hM2⟩ := KQ.mr hM hr
        refine j_tl ?_
        refine j_icmp_eq FC.1 631 dL_law_452 (by decide) (fun _ => ?_) (fun h => absurd rfl h)
        exact next _ _ _ _ _ _ _ hC2 hM2 (pi_no (a := 0) hPI)
      by_cases k11 : sc i &&& 31 = 11
      · refine j_tableIn FC.1 457 dL_law_33 (by rw [k11]; decide) (by rw [k11]; decide) (by rw [k11]; rfl) (by decide) ?_
        refine j_aload_n FC.1 dL_law_457 rfl ?_
        refine j_aload_n FC.1 dL_law_458 rfl ?_
        refine j_iload_n FC.1 dL_law_459 rfl ?_
        refine j_iconst FC.1 (1) dL_law_460 (by decide) ?_
        refine j_iadd FC.1 dL_law_461 ?_
        refine j_top (y := nI (i + 1)) (nI_add i 1) ?_
        refine l_sld FC.1 hX hbl hbA (j := i + 1) (by omega) hL31 dL_law_462 ?_
        refine g_callV FC hAC (lwP_C hdis) (c_usedBy hn4 hC hPI.1.1) co_X5_usedBy ml_L_60 im_X5_usedBy se_X5_usedBy in_X5 rc_X5_usedBy rfl (by decide) (by decide) ⟨by decide, rfl⟩ rfl rfl (Nat.le_of_ble_eq_true rfl) dL_law_463 (fun r u hr => ?_)
        obtain ⟨rfl, hC2⟩ := hr
        refine j_tl ?_
        refine j_aload_n FC.1 dL_law_466 rfl ?_
        refine j_aload_n FC.1 dL_law_467 rfl ?_
        refine j_iload_n FC.1 dL_law_468 rfl ?_
        refine j_iconst FC.1 (1) dL_law_469 (by decide) ?_
        refine j_iadd FC.1 dL_law_470 ?_
        refine j_top (y := nI (i + 1)) (nI_add i 1) ?_
        refine l_sld FC.1 hX hbl hbA (j := i + 1) (by omega) hL31 dL_law_471 ?_
        refine g_callV FM hAM (lwP_M hdis) (k_usedBy hn3 hPI.1.1.wd) co_X6_usedBy ml_L_63 im_X6_usedBy se_X6_usedBy in_X6 rc_X6_usedBy rfl (by decide) (by decide) ⟨by decide, rfl⟩ rfl rfl (Nat.le_of_ble_eq_true rfl) dL_law_472 (fun r u2 hr => ?_)
        obtain ⟨rfl, hM2⟩ := KQ.mr hM hr
        refine j_tl ?_
        refine j_icmp_eq FC.1 631 dL_law_475 (by decide) (fun _ => ?_) (fun h => absurd rfl h)
        exact next _ _ _ _ _ _ _ hC2 hM2 (pi_no (a := 0) hPI)
      by_cases k12 : sc i &&& 31 = 12
      · refine j_tableIn FC.1 480 dL_law_33 (by rw [k12]; decide) (by rw [k12]; decide) (by rw [k12]; rfl) (by decide) ?_
        refine j_aload_n FC.1 dL_law_480 rfl ?_
        refine j_aload_n FC.1 dL_law_481 rfl ?_
        refine j_iload_n FC.1 dL_law_482 rfl ?_
        refine j_iconst FC.1 (1) dL_law_483 (by decide) ?_
        refine j_iadd FC.1 dL_law_484 ?_
        refine j_top (y := nI (i + 1)) (nI_add i 1) ?_
        refine l_sld FC.1 hX hbl hbA (j := i + 1) (by omega) hL31 dL_law_485 ?_
        refine j_aload_n FC.1 dL_law_486 rfl ?_
        refine j_iload_n FC.1 dL_law_487 rfl ?_
        refine j_iconst FC.1 (2) dL_law_488 (by decide) ?_
        refine j_iadd FC.1 dL_law_489 ?_
        refine j_top (y := nI (i + 2)) (nI_add i 2) ?_
        refine l_sld FC.1 hX hbl hbA (j := i + 2) (by omega) hL31 dL_law_490 ?_
        refine j_aload_n FC.1 dL_law_491 rfl ?_
        refine j_iload_n FC.1 dL_law_492 rfl ?_
        refine j_iconst FC.1 (3) dL_law_493 (by decide) ?_
        refine j_iadd FC.1 dL_law_494 ?_
        refine j_top (y := nI (i + 3)) (nI_add i 3) ?_
        refine l_sld FC.1 hX hbl hbA (j := i + 3) (by omega) hL31 dL_law_495 ?_
        refine g_callV FC hAC (lwP_C hdis) (c_would hn4 hC hPI.1.1 hrv) co_X5_would ml_L_64 im_X5_would se_X5_would in_X5 rc_X5_would rfl (by decide) (by decide) ⟨by decide, rfl⟩ rfl rfl (Nat.le_of_ble_eq_true rfl) dL_law_496 (fun r u hr => ?_)
        obtain ⟨rfl, hC2⟩ := hr
        refine j_tl ?_
        refine j_aload_n FC.1 dL_law_499 rfl ?_
        refine j_aload_n FC.1 dL_law_500 rfl ?_
        refine j_iload_n FC.1 dL_law_501 rfl ?_
        refine j_iconst FC.1 (1) dL_law_502 (by decide) ?_
        refine j_iadd FC.1 dL_law_503 ?_
        refine j_top (y := nI (i + 1)) (nI_add i 1) ?_
        refine l_sld FC.1 hX hbl hbA (j := i + 1) (by omega) hL31 dL_law_504 ?_
        refine j_aload_n FC.1 dL_law_505 rfl ?_
        refine j_iload_n FC.1 dL_law_506 rfl ?_
        refine j_iconst FC.1 (2) dL_law_507 (by decide) ?_
        refine j_iadd FC.1 dL_law_508 ?_
        refine j_top (y := nI (i + 2)) (nI_add i 2) ?_
        refine l_sld FC.1 hX hbl hbA (j := i + 2) (by omega) hL31 dL_law_509 ?_
        refine j_aload_n FC.1 dL_law_510 rfl ?_
        refine j_iload_n FC.1 dL_law_511 rfl ?_
        refine j_iconst FC.1 (3) dL_law_512 (by decide) ?_
        refine j_iadd FC.1 dL_law_513 ?_
        refine j_top (y := nI (i + 3)) (nI_add i 3) ?_
        refine l_sld FC.1 hX hbl hbA (j := i + 3) (by omega) hL31 dL_law_514 ?_
        refine g_callV FM hAM (lwP_M hdis) (k_would hn3 hPI.1.1.wd) co_X6_would ml_L_68 im_X6_would se_X6_would in_X6 rc_X6_would rfl (by decide) (by decide) ⟨by decide, rfl⟩ rfl rfl (Nat.le_of_ble_eq_true rfl) dL_law_515 (fun r u2 hr => ?_)
        obtain ⟨rfl, hM2⟩ := KQ.mr hM hr
        refine j_tl ?_
        refine j_icmp_eq FC.1 631 dL_law_518 (by decide) (fun _ => ?_) (fun h => absurd rfl h)
        exact next _ _ _ _ _ _ _ hC2 hM2 (pi_no (a := 0) hPI)
      by_cases k13 : sc i &&& 31 = 13
      · refine j_tableIn FC.1 523 dL_law_33 (by rw [k13]; decide) (by rw [k13]; decide) (by rw [k13]; rfl) (by decide) ?_
        refine j_aload_n FC.1 dL_law_523 rfl ?_
        refine j_aload_n FC.1 dL_law_524 rfl ?_
        refine j_iload_n FC.1 dL_law_525 rfl ?_
        refine j_iconst FC.1 (1) dL_law_526 (by decide) ?_
        refine j_iadd FC.1 dL_law_527 ?_
        refine j_top (y := nI (i + 1)) (nI_add i 1) ?_
        refine l_sld FC.1 hX hbl hbA (j := i + 1) (by omega) hL31 dL_law_528 ?_
        refine g_callV FC hAC (lwP_C hdis) (c_count hn4 hC) co_X5_count ml_L_69 im_X5_count se_X5_count in_X5 rc_X5_count rfl (by decide) (by decide) ⟨by decide, rfl⟩ rfl rfl (Nat.le_of_ble_eq_true rfl) dL_law_529 (fun r u hr => ?_)
        obtain ⟨rfl, hC2⟩ := hr
        refine j_tl ?_
        refine j_aload_n FC.1 dL_law_532 rfl ?_
        refine j_aload_n FC.1 dL_law_533 rfl ?_
        refine j_iload_n FC.1 dL_law_534 rfl ?_
        refine j_iconst FC.1 (1) dL_law_535 (by decide) ?_
        refine j_iadd FC.1 dL_law_536 ?_
        refine j_top (y := nI (i + 1)) (nI_add i 1) ?_
        refine l_sld FC.1 hX hbl hbA (j := i + 1) (by omega) hL31 dL_law_537 ?_
        refine g_callV FM hAM (lwP_M hdis) (k_count hn3) co_X6_count ml_L_72 im_X6_count se_X6_count in_X6 rc_X6_count rfl (by decide) (by decide) ⟨by decide, rfl⟩ rfl rfl (Nat.le_of_ble_eq_true rfl) dL_law_538 (fun r u2 hr => ?_)
        dsimp only at hr; rw [hl5] at hr
        obtain ⟨rfl, hM2⟩ := KQ.mr hM hr
        refine j_tl ?_
        refine j_icmp_eq FC.1 631 dL_law_541 (by decide) (fun _ => ?_) (fun h => absurd rfl h)
        exact next _ _ _ _ _ _ _ hC2 hM2 (pi_no (a := 0) hPI)
      by_cases k14 : sc i &&& 31 = 14
      · refine j_tableIn FC.1 546 dL_law_33 (by rw [k14]; decide) (by rw [k14]; decide) (by rw [k14]; rfl) (by decide) ?_
        refine j_aload_n FC.1 dL_law_546 rfl ?_
        refine g_callV FC hAC (lwP_C hdis) (c_undo hn4 hC) co_X5_undo ml_L_73 im_X5_undo se_X5_undo in_X5 rc_X5_undo rfl (by decide) (by decide) ⟨by decide, rfl⟩ rfl rfl (Nat.le_of_ble_eq_true rfl) dL_law_547 (fun r u hr => ?_)
        obtain ⟨rfl, hC2⟩ := hr
        refine j_tl ?_
        refine j_aload_n FC.1 dL_law_550 rfl ?_
        refine g_callV FM hAM (lwP_M hdis) (k_undo hn4 hn3) co_X6_undo ml_L_77 im_X6_undo se_X6_undo in_X6 rc_X6_undo rfl (by decide) (by decide) ⟨by decide, rfl⟩ rfl rfl (Nat.le_of_ble_eq_true rfl) dL_law_551 (fun r u2 hr => ?_)
        obtain ⟨rfl, hM2⟩ := KQ.mr hM hr
        refine j_tl ?_
        refine j_icmp_eq FC.1 631 dL_law_554 (by decide) (fun _ => ?_) (fun h => absurd rfl h)
        exact next _ _ _ _ _ _ _ hC2 hM2 (pi_undo hPI)
      by_cases k15 : sc i &&& 31 = 15
      · refine j_tableIn FC.1 559 dL_law_33 (by rw [k15]; decide) (by rw [k15]; decide) (by rw [k15]; rfl) (by decide) ?_
        refine j_aload_n FC.1 dL_law_559 rfl ?_
        refine j_aload_n FC.1 dL_law_560 rfl ?_
        refine j_iload_n FC.1 dL_law_561 rfl ?_
        refine j_iconst FC.1 (1) dL_law_562 (by decide) ?_
        refine j_iadd FC.1 dL_law_563 ?_
        refine j_top (y := nI (i + 1)) (nI_add i 1) ?_
        refine l_sld FC.1 hX hbl hbA (j := i + 1) (by omega) hL31 dL_law_564 ?_
        refine g_callV FC hAC (lwP_C hdis) (c_type hn4 hC hln) co_X5_type ml_L_78 im_X5_type se_X5_type in_X5 rc_X5_type rfl (by decide) (by decide) ⟨by decide, rfl⟩ rfl rfl (Nat.le_of_ble_eq_true rfl) dL_law_565 (fun r u hr => ?_)
        obtain ⟨rfl, hC2⟩ := hr
        refine j_tl ?_
        refine j_aload_n FC.1 dL_law_568 rfl ?_
        refine j_aload_n FC.1 dL_law_569 rfl ?_
        refine j_iload_n FC.1 dL_law_570 rfl ?_
        refine j_iconst FC.1 (1) dL_law_571 (by decide) ?_
        refine j_iadd FC.1 dL_law_572 ?_
        refine j_top (y := nI (i + 1)) (nI_add i 1) ?_
        refine l_sld FC.1 hX hbl hbA (j := i + 1) (by omega) hL31 dL_law_573 ?_
        refine g_callV FM hAM (lwP_M hdis) (k_type hn3 hl5 hln) co_X6_type ml_L_81 im_X6_type se_X6_type in_X6 rc_X6_type rfl (by decide) (by decide) ⟨by decide, rfl⟩ rfl rfl (Nat.le_of_ble_eq_true rfl) dL_law_574 (fun r u2 hr => ?_)
        obtain ⟨rfl, hM2⟩ := hr.mr
        refine j_tl ?_
        refine j_icmp_eq FC.1 631 dL_law_577 (by decide) (fun _ => ?_) (fun h => absurd rfl h)
        exact next _ _ _ _ _ _ _ hC2 hM2 (pi_type hPI)
      by_cases k16 : sc i &&& 31 = 16
      · refine j_tableIn FC.1 582 dL_law_33 (by rw [k16]; decide) (by rw [k16]; decide) (by rw [k16]; rfl) (by decide) ?_
        refine j_aload_n FC.1 dL_law_582 rfl ?_
        refine g_callV FC hAC (lwP_C hdis) (c_clearText hn4 hC) co_X5_clearText ml_L_82 im_X5_clearText se_X5_clearText in_X5 rc_X5_clearText rfl (by decide) (by decide) ⟨by decide, rfl⟩ rfl rfl (Nat.le_of_ble_eq_true rfl) dL_law_583 (fun r u hr => ?_)
        obtain ⟨rfl, hC2⟩ := hr
        refine j_tl ?_
        refine j_aload_n FC.1 dL_law_586 rfl ?_
        refine g_callV FM hAM (lwP_M hdis) (k_clearText hn3 hl5 hln) co_X6_clearText ml_L_85 im_X6_clearText se_X6_clearText in_X6 rc_X6_clearText rfl (by decide) (by decide) ⟨by decide, rfl⟩ rfl rfl (Nat.le_of_ble_eq_true rfl) dL_law_587 (fun r u2 hr => ?_)
        obtain ⟨rfl, hM2⟩ := hr.mr
        refine j_tl ?_
        refine j_icmp_eq FC.1 631 dL_law_590 (by decide) (fun _ => ?_) (fun h => absurd rfl h)
        exact next _ _ _ _ _ _ _ hC2 hM2 (hPI.clr)
      by_cases k17 : sc i &&& 31 = 17
      · refine j_tableIn FC.1 595 dL_law_33 (by rw [k17]; decide) (by rw [k17]; decide) (by rw [k17]; rfl) (by decide) ?_
        refine j_aload_n FC.1 dL_law_595 rfl ?_
        refine j_aload_n FC.1 dL_law_596 rfl ?_
        refine j_iload_n FC.1 dL_law_597 rfl ?_
        refine j_iconst FC.1 (1) dL_law_598 (by decide) ?_
        refine j_iadd FC.1 dL_law_599 ?_
        refine j_top (y := nI (i + 1)) (nI_add i 1) ?_
        refine l_sld FC.1 hX hbl hbA (j := i + 1) (by omega) hL31 dL_law_600 ?_
        refine g_callV FC hAC (lwP_C hdis) (c_fault hn4 hC hln) co_X5_fault ml_L_86 im_X5_fault se_X5_fault in_X5 rc_X5_fault rfl (by decide) (by decide) ⟨by decide, rfl⟩ rfl rfl (Nat.le_of_ble_eq_true rfl) dL_law_601 (fun r u hr => ?_)
        obtain ⟨rfl, hC2⟩ := hr
        refine j_tl ?_
        refine j_aload_n FC.1 dL_law_604 rfl ?_
        refine j_aload_n FC.1 dL_law_605 rfl ?_
        refine j_iload_n FC.1 dL_law_606 rfl ?_
        refine j_iconst FC.1 (1) dL_law_607 (by decide) ?_
        refine j_iadd FC.1 dL_law_608 ?_
        refine j_top (y := nI (i + 1)) (nI_add i 1) ?_
        refine l_sld FC.1 hX hbl hbA (j := i + 1) (by omega) hL31 dL_law_609 ?_
        refine g_callV FM hAM (lwP_M hdis) (k_fault hn3 hl5 hln) co_X6_fault ml_L_89 im_X6_fault se_X6_fault in_X6 rc_X6_fault rfl (by decide) (by decide) ⟨by decide, rfl⟩ rfl rfl (Nat.le_of_ble_eq_true rfl) dL_law_610 (fun r u2 hr => ?_)
        obtain ⟨rfl, hM2⟩ := KQ.mr hM hr
        refine j_tl ?_
        refine j_icmp_eq FC.1 631 dL_law_613 (by decide) (fun _ => ?_) (fun h => absurd rfl h)
        exact next _ _ _ _ _ _ _ hC2 hM2 (pi_no (a := 0) hPI)
      by_cases k18 : sc i &&& 31 = 18
      · refine j_tableIn FC.1 618 dL_law_33 (by rw [k18]; decide) (by rw [k18]; decide) (by rw [k18]; rfl) (by decide) ?_
        refine j_aload_n FC.1 dL_law_618 rfl ?_
        refine g_callV FC hAC (lwP_C hdis) (c_play hn4 hC hln) co_X5_play ml_L_90 im_X5_play se_X5_play in_X5 rc_X5_play rfl (by decide) (by decide) ⟨by decide, rfl⟩ rfl rfl (Nat.le_of_ble_eq_true rfl) dL_law_619 (fun r u hr => ?_)
        obtain ⟨rfl, hC2⟩ := hr
        refine j_tl ?_
        refine j_aload_n FC.1 dL_law_622 rfl ?_
        refine g_callV FM hAM (lwP_M hdis) (k_play hn4 hn3 hl5 hln hPI.1.1 hrv2) co_X6_play ml_L_93 im_X6_play se_X6_play in_X6 rc_X6_play rfl (by decide) (by decide) ⟨by decide, rfl⟩ rfl rfl (Nat.le_of_ble_eq_true rfl) dL_law_623 (fun r u2 hr => ?_)
        obtain ⟨rfl, hM2⟩ := KQ.mr hM hr
        refine j_tl ?_
        refine j_icmp_eq FC.1 631 dL_law_626 (by decide) (fun _ => ?_) (fun h => absurd rfl h)
        exact next _ _ _ _ _ _ _ hC2 hM2 (pi_play hPI hb)
      refine j_tableOut FC.1 631 dL_law_33 (by have a0 : (sc i &&& 31).toInt ≠ 0 := fun z => k0 (Int32.toInt_inj.mp (by rw [z]; rfl)); have a1 : (sc i &&& 31).toInt ≠ 1 := fun z => k1 (Int32.toInt_inj.mp (by rw [z]; rfl)); have a2 : (sc i &&& 31).toInt ≠ 2 := fun z => k2 (Int32.toInt_inj.mp (by rw [z]; rfl)); have a3 : (sc i &&& 31).toInt ≠ 3 := fun z => k3 (Int32.toInt_inj.mp (by rw [z]; rfl)); have a4 : (sc i &&& 31).toInt ≠ 4 := fun z => k4 (Int32.toInt_inj.mp (by rw [z]; rfl)); have a5 : (sc i &&& 31).toInt ≠ 5 := fun z => k5 (Int32.toInt_inj.mp (by rw [z]; rfl)); have a6 : (sc i &&& 31).toInt ≠ 6 := fun z => k6 (Int32.toInt_inj.mp (by rw [z]; rfl)); have a7 : (sc i &&& 31).toInt ≠ 7 := fun z => k7 (Int32.toInt_inj.mp (by rw [z]; rfl)); have a8 : (sc i &&& 31).toInt ≠ 8 := fun z => k8 (Int32.toInt_inj.mp (by rw [z]; rfl)); have a9 : (sc i &&& 31).toInt ≠ 9 := fun z => k9 (Int32.toInt_inj.mp (by rw [z]; rfl)); have a10 : (sc i &&& 31).toInt ≠ 10 := fun z => k10 (Int32.toInt_inj.mp (by rw [z]; rfl)); have a11 : (sc i &&& 31).toInt ≠ 11 := fun z => k11 (Int32.toInt_inj.mp (by rw [z]; rfl)); have a12 : (sc i &&& 31).toInt ≠ 12 := fun z => k12 (Int32.toInt_inj.mp (by rw [z]; rfl)); have a13 : (sc i &&& 31).toInt ≠ 13 := fun z => k13 (Int32.toInt_inj.mp (by rw [z]; rfl)); have a14 : (sc i &&& 31).toInt ≠ 14 := fun z => k14 (Int32.toInt_inj.mp (by rw [z]; rfl)); have a15 : (sc i &&& 31).toInt ≠ 15 := fun z => k15 (Int32.toInt_inj.mp (by rw [z]; rfl)); have a16 : (sc i &&& 31).toInt ≠ 16 := fun z => k16 (Int32.toInt_inj.mp (by rw [z]; rfl)); have a17 : (sc i &&& 31).toInt ≠ 17 := fun z => k17 (Int32.toInt_inj.mp (by rw [z]; rfl)); have a18 : (sc i &&& 31).toInt ≠ 18 := fun z => k18 (Int32.toInt_inj.mp (by rw [z]; rfl)); omega) (by decide) ?_
      exact next _ _ _ _ _ _ _ hC hM (hPI.up (by omega))
