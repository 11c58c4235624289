/-! the law's walk over both sides -/
theorem JJ_0 {sc : pm_C} {H : pm_H} (h : JJ sc H) : H.2 0 = some sc := by
  obtain ⟨h, xi, xl, xc, XA, XB, mi, ml, A, B, rfl, hJ⟩ := h
  obtain ⟨cn9, C9, hx9, hm9, hh9, hsc9⟩ := hJ.1
  exact hsc9
theorem JJ_1 {sc : pm_C} {H : pm_H} (h : JJ sc H) : ∃ fs, H.2 1 = some (.inr (9, fs)) := by
  obtain ⟨h, xi, xl, xc, XA, XB, mi, ml, A, B, rfl, hJ⟩ := h
  exact ⟨_, rfl⟩
theorem j_init {sc : pm_C} {g : Nat → Option pm_C} (hg : g 0 = some sc) : JJ sc (pmM (pmX ((68, g) : pm_H) xi0 xl0 (fun _ => none) XA0 (fun _ _ => 0)) mi0 ml0 A0 (fun _ _ => 0)) := by
  refine ⟨((68, g) : pm_H), xi0, xl0, _, XA0, _, mi0, ml0, A0, _, rfl, ⟨0, fun _ => (0, 0, 0, 0, 0, 0), ⟨rfl, by decide, fun j hj => absurd hj (by omega)⟩, ⟨rfl, by decide, fun j hj => absurd hj (by omega)⟩, rfl, hg⟩, ⟨fun _ => 8, fun j hj => ⟨if_pos hj, show 6 ≤ 8 by decide, show 8 ≤ 9 by decide⟩, fun p hp j hj => ?_⟩, ⟨fun _ => none, fun r hr => ?_, fun r hr => ?_, fun r hr q hq => ?_, fun r hr q => ?_⟩, ⟨rfl, fun w hw => rfl⟩, ⟨rfl, rfl, rfl⟩, ⟨0, by decide, rfl, Or.inr ⟨rfl, rfl⟩, fun j hj => absurd hj (by omega)⟩⟩
  · show XA0 (21 + 2 * p) j = nI 8
    rw [show XA0 (21 + 2 * p) = pm_fl (nI 8) (fun _ => 0) 6 from if_pos (by omega)]
    exact if_pos hj
  · show xi0 (3 + r) = -1
    exact if_neg (by omega)
  · show A0 62 r = -9
    exact if_pos hr
  · show XA0 (37 + 2 * r) q = 0
    rw [show XA0 (37 + 2 * r) = (fun _ => 0) from if_neg (by omega)]
  · rw [show XA0 (37 + 2 * r) = (fun _ => 0) from if_neg (by omega)]; rfl
theorem law_h0 {g : Nat → Option pm_C} {c : Option pm_C} : pmM ((68, fun q => if q = 44 then c else (pmX ((44, g) : pm_H) xi0 xl0 (fun _ => none) XA0 (fun _ _ => 0)).2 q) : pm_H) mi0 ml0 A0 (fun _ _ => 0) = pmM (pmX ((68, g) : pm_H) xi0 xl0 (fun _ => none) XA0 (fun _ _ => 0)) mi0 ml0 A0 (fun _ _ => 0) := by
  refine Prod.ext rfl (funext fun q => ?_)
  show (if q = 44 then _ else if 45 ≤ q ∧ q ≤ 67 then _ else if q = 44 then c else (pmX ((44, g) : pm_H) xi0 xl0 (fun _ => none) XA0 (fun _ _ => 0)).2 q) = if q = 44 then _ else if 45 ≤ q ∧ q ≤ 67 then _ else (pmX ((68, g) : pm_H) xi0 xl0 (fun _ => none) XA0 (fun _ _ => 0)).2 q
  by_cases e : q = 44
  · rw [if_pos e, if_pos e]
  · rw [if_neg e, if_neg e, if_neg e]
    rfl
theorem law_le {a z m : Nat} (hz : z < 2 ^ 30) (ha : a < 2 ^ 31) (hm : m < 2 ^ 30) : nI z - nI m < nI a ↔ ¬ a + m ≤ z := by
  rw [Int32.lt_iff_toInt_lt, pk_sub_toInt hz hm, nI_toInt ha]
  omega
section LAWX
variable {sc : pm_C} {eX eM : pm_E} {as : List Value} {H : pm_H} {st st0 : List Value} {L : List (Option Value)} {b b' : Nat × Nat} {F : Option Value → pm_H → Prop} {pc q n : Nat}
theorem law_X (hj : jT sc eX eM as H) (hH : JJ sc H) (hd : pm_kV e_L_law pc eX RX9 n q) (hn : as.length = n) (hst : st0 = as.reverse ++ .ref 1 :: st) (hcat : (st.map fun v => v.category).sum ≤ 8) (hb1 : b'.1 + (pm_rm eX).cells ≤ b.1) (hb2 : b'.2 + (pm_rm eX).slots ≤ b.2) (K : ∀ x h1 Q fs, h1.2 0 = some sc → h1.2 44 = some (.inr (10, fs)) → pm_Cl eM (.ref 44 :: as) h1 Q → (∀ v2 h2, Q v2 h2 → v2 = some (.int x) ∧ JJ sc h2) → pm_V e_L_law q L (.int x :: st) h1 b' F) : pm_V e_L_law pc L st0 H b F := by
  obtain ⟨P, hX, hk⟩ := hj
  obtain ⟨fs, h1⟩ := JJ_1 hH
  refine r_callVa (b' := b') hd rfl rfl h1 hn hst hcat hb1 hb2 hX ?_
  intro v h9 hP
  obtain ⟨x, rfl, q0, ⟨fs4, q4⟩, Q, hM, hQ⟩ := hk v h9 hP
  exact K x h9 Q fs4 q0 q4 hM hQ
theorem law_M {x : Int32} {fs : List Value} {Q : Option Value → pm_H → Prop} (hM : pm_Cl eM (.ref 44 :: as) H Q) (hQ : ∀ v2 h2, Q v2 h2 → v2 = some (.int x) ∧ JJ sc h2) (h4 : H.2 44 = some (.inr (10, fs))) (hd : pm_kV e_L_law pc eM RX10 n q) (hn : as.length = n) (hst : st0 = as.reverse ++ .ref 44 :: st) (hcat : (st.map fun v => v.category).sum ≤ 8) (hb1 : b'.1 + (pm_rm eM).cells ≤ b.1) (hb2 : b'.2 + (pm_rm eM).slots ≤ b.2) (K : ∀ h2, JJ sc h2 → pm_V e_L_law q L (.int x :: st) h2 b' F) : pm_V e_L_law pc L st0 H b F := by
  refine r_callVa (b' := b') hd rfl rfl h4 hn hst hcat hb1 hb2 hM ?_
  intro v h9 hP
  obtain ⟨rfl, hJ⟩ := hQ v h9 hP
  exact K h9 hJ
theorem law_Xl (hj : jTl sc eX eM as H) (hH : JJ sc H) (hd : pm_kV e_L_law pc eX RX9 n q) (hn : as.length = n) (hst : st0 = as.reverse ++ .ref 1 :: st) (hcat : (st.map fun v => v.category).sum ≤ 8) (hb1 : b'.1 + (pm_rm eX).cells ≤ b.1) (hb2 : b'.2 + (pm_rm eX).slots ≤ b.2) (K : ∀ x h1 Q fs, h1.2 0 = some sc → h1.2 44 = some (.inr (10, fs)) → pm_Cl eM (.ref 44 :: as) h1 Q → (∀ v2 h2, Q v2 h2 → v2 = some (.long x) ∧ JJ sc h2) → pm_V e_L_law q L (.long x :: st) h1 b' F) : pm_V e_L_law pc L st0 H b F := by
  obtain ⟨P, hX, hk⟩ := hj
  obtain ⟨fs, h1⟩ := JJ_1 hH
  refine r_callVa (b' := b') hd rfl rfl h1 hn hst hcat hb1 hb2 hX ?_
  intro v h9 hP
  obtain ⟨x, rfl, q0, ⟨fs4, q4⟩, Q, hM, hQ⟩ := hk v h9 hP
  exact K x h9 Q fs4 q0 q4 hM hQ
theorem law_Ml {x : Int64} {fs : List Value} {Q : Option Value → pm_H → Prop} (hM : pm_Cl eM (.ref 44 :: as) H Q) (hQ : ∀ v2 h2, Q v2 h2 → v2 = some (.long x) ∧ JJ sc h2) (h4 : H.2 44 = some (.inr (10, fs))) (hd : pm_kV e_L_law pc eM RX10 n q) (hn : as.length = n) (hst : st0 = as.reverse ++ .ref 44 :: st) (hcat : (st.map fun v => v.category).sum ≤ 8) (hb1 : b'.1 + (pm_rm eM).cells ≤ b.1) (hb2 : b'.2 + (pm_rm eM).slots ≤ b.2) (K : ∀ h2, JJ sc h2 → pm_V e_L_law q L (.long x :: st) h2 b' F) : pm_V e_L_law pc L st0 H b F := by
  refine r_callVa (b' := b') hd rfl rfl h4 hn hst hcat hb1 hb2 hM ?_
  intro v h9 hP
  obtain ⟨rfl, hJ⟩ := hQ v h9 hP
  exact K h9 hJ
end LAWX
set_option maxRecDepth 10000 in
set_option maxHeartbeats 4000000 in
theorem lc_0 {N9 i c1 c2 : Nat} {xs : Nat → Int32} {H : pm_H} {F : Option Value → pm_H → Prop} (hN : N9 ≤ 3072) (hi6 : i + 6 ≤ N9) (hJJ : JJ (.inl (.array .int, N9, .inl xs) : pm_C) H) (K : ∀ h2, JJ (.inl (.array .int, N9, .inl xs) : pm_C) h2 → pm_V e_L_law 1529 [some (.ref 0), some (.ref 1), some (.ref 44), some (.int (nI i))] [] h2 (c1, c2) F) : pm_V e_L_law 196 [some (.ref 0), some (.ref 1), some (.ref 44), some (.int (nI i))] [] H (c1 + 1, c2 + 5) F := by
  have h0 := JJ_0 hJJ
  by_cases ez : xs (i + 1) = 0
  ·
    refine r_aload_1 d_L_law_196 ?_
    refine r_aload_0 d_L_law_197 ?_
    refine r_iload_3 d_L_law_198 ?_
    refine r_push (v := nI 1) d_L_law_199 ?_
    refine r_iadd d_L_law_200 ?_
    rw [nI_add]
    refine r_sld d_L_law_201 h0 (pm_ixN (by omega) (by omega)) ?_
    refine r_if_eq d_L_law_202 (fun c202 => ?_) (fun c202 => ?_)
    · -- taken at 202
      refine r_push (v := nI 0) d_L_law_209 ?_
      refine law_X (b' := (c1, c2)) (j_caster0 hJJ) hJJ d_L_law_210 rfl rfl (Nat.le_of_ble_eq_true rfl) (Nat.add_le_add_left (by decide) _) (Nat.add_le_add_left (by decide) _) ?_
      intro x9 h9 Q9 fs9 hs9 h44 hM9 hQ9
      refine r_aload_2 d_L_law_213 ?_
      refine r_aload_0 d_L_law_214 ?_
      refine r_iload_3 d_L_law_215 ?_
      refine r_push (v := nI 1) d_L_law_216 ?_
      refine r_iadd d_L_law_217 ?_
      rw [nI_add]
      refine r_sld d_L_law_218 hs9 (pm_ixN (by omega) (by omega)) ?_
      refine r_if_eq d_L_law_219 (fun c219 => ?_) (fun c219 => ?_)
      · -- taken at 219
        refine r_push (v := nI 0) d_L_law_226 ?_
        refine law_M (b' := (c1, c2)) hM9 hQ9 h44 d_L_law_227 rfl rfl (Nat.le_of_ble_eq_true rfl) (Nat.le_refl _) (Nat.le_refl _) ?_
        intro h8 hJ8
        refine r_icmp_eq d_L_law_230 (fun c230 => ?_) (fun c230 => ?_)
        · -- taken at 230
          exact K _ hJ8
        · -- not taken at 230
          exact absurd rfl c230
      · -- not taken at 219
        exact absurd ez c219
    · -- not taken at 202
      exact absurd ez c202
  ·
    refine r_aload_1 d_L_law_196 ?_
    refine r_aload_0 d_L_law_197 ?_
    refine r_iload_3 d_L_law_198 ?_
    refine r_push (v := nI 1) d_L_law_199 ?_
    refine r_iadd d_L_law_200 ?_
    rw [nI_add]
    refine r_sld d_L_law_201 h0 (pm_ixN (by omega) (by omega)) ?_
    refine r_if_eq d_L_law_202 (fun c202 => ?_) (fun c202 => ?_)
    · -- taken at 202
      exact absurd c202 ez
    · -- not taken at 202
      refine r_push (v := nI 1) d_L_law_205 ?_
      refine r_goto d_L_law_206 ?_
      refine law_X (b' := (c1, c2)) (j_caster1 hJJ) hJJ d_L_law_210 rfl rfl (Nat.le_of_ble_eq_true rfl) (Nat.add_le_add_left (by decide) _) (Nat.add_le_add_left (by decide) _) ?_
      intro x9 h9 Q9 fs9 hs9 h44 hM9 hQ9
      refine r_aload_2 d_L_law_213 ?_
      refine r_aload_0 d_L_law_214 ?_
      refine r_iload_3 d_L_law_215 ?_
      refine r_push (v := nI 1) d_L_law_216 ?_
      refine r_iadd d_L_law_217 ?_
      rw [nI_add]
      refine r_sld d_L_law_218 hs9 (pm_ixN (by omega) (by omega)) ?_
      refine r_if_eq d_L_law_219 (fun c219 => ?_) (fun c219 => ?_)
      · -- taken at 219
        exact absurd c219 ez
      · -- not taken at 219
        refine r_push (v := nI 1) d_L_law_222 ?_
        refine r_goto d_L_law_223 ?_
        refine law_M (b' := (c1, c2)) hM9 hQ9 h44 d_L_law_227 rfl rfl (Nat.le_of_ble_eq_true rfl) (Nat.le_refl _) (Nat.le_refl _) ?_
        intro h8 hJ8
        refine r_icmp_eq d_L_law_230 (fun c230 => ?_) (fun c230 => ?_)
        · -- taken at 230
          exact K _ hJ8
        · -- not taken at 230
          exact absurd rfl c230
set_option maxRecDepth 10000 in
set_option maxHeartbeats 4000000 in
theorem lc_1 {N9 i c1 c2 : Nat} {xs : Nat → Int32} {H : pm_H} {F : Option Value → pm_H → Prop} (hN : N9 ≤ 3072) (hi6 : i + 6 ≤ N9) (hJJ : JJ (.inl (.array .int, N9, .inl xs) : pm_C) H) (K : ∀ h2, JJ (.inl (.array .int, N9, .inl xs) : pm_C) h2 → pm_V e_L_law 1529 [some (.ref 0), some (.ref 1), some (.ref 44), some (.int (nI i))] [] h2 (c1, c2) F) : pm_V e_L_law 235 [some (.ref 0), some (.ref 1), some (.ref 44), some (.int (nI i))] [] H (c1 + 1, c2 + 5) F := by
  have h0 := JJ_0 hJJ
  by_cases ez : xs (i + 3) = 0
  ·
    refine r_aload_1 d_L_law_235 ?_
    refine r_aload_0 d_L_law_236 ?_
    refine r_iload_3 d_L_law_237 ?_
    refine r_push (v := nI 1) d_L_law_238 ?_
    refine r_iadd d_L_law_239 ?_
    rw [nI_add]
    refine r_sld d_L_law_240 h0 (pm_ixN (by omega) (by omega)) ?_
    refine r_aload_0 d_L_law_241 ?_
    refine r_iload_3 d_L_law_242 ?_
    refine r_push (v := nI 2) d_L_law_243 ?_
    refine r_iadd d_L_law_244 ?_
    rw [nI_add]
    refine r_sld d_L_law_245 h0 (pm_ixN (by omega) (by omega)) ?_
    refine r_aload_0 d_L_law_246 ?_
    refine r_iload_3 d_L_law_247 ?_
    refine r_push (v := nI 3) d_L_law_248 ?_
    refine r_iadd d_L_law_249 ?_
    rw [nI_add]
    refine r_sld d_L_law_250 h0 (pm_ixN (by omega) (by omega)) ?_
    refine r_if_eq d_L_law_251 (fun c251 => ?_) (fun c251 => ?_)
    · -- taken at 251
      refine r_push (v := nI 0) d_L_law_258 ?_
      refine law_X (b' := (c1, c2)) (j_stalks (f := 0) (by decide) hJJ) hJJ d_L_law_259 rfl rfl (Nat.le_of_ble_eq_true rfl) (Nat.add_le_add_left (by decide) _) (Nat.add_le_add_left (by decide) _) ?_
      intro x9 h9 Q9 fs9 hs9 h44 hM9 hQ9
      refine r_aload_2 d_L_law_262 ?_
      refine r_aload_0 d_L_law_263 ?_
      refine r_iload_3 d_L_law_264 ?_
      refine r_push (v := nI 1) d_L_law_265 ?_
      refine r_iadd d_L_law_266 ?_
      rw [nI_add]
      refine r_sld d_L_law_267 hs9 (pm_ixN (by omega) (by omega)) ?_
      refine r_aload_0 d_L_law_268 ?_
      refine r_iload_3 d_L_law_269 ?_
      refine r_push (v := nI 2) d_L_law_270 ?_
      refine r_iadd d_L_law_271 ?_
      rw [nI_add]
      refine r_sld d_L_law_272 hs9 (pm_ixN (by omega) (by omega)) ?_
      refine r_aload_0 d_L_law_273 ?_
      refine r_iload_3 d_L_law_274 ?_
      refine r_push (v := nI 3) d_L_law_275 ?_
      refine r_iadd d_L_law_276 ?_
      rw [nI_add]
      refine r_sld d_L_law_277 hs9 (pm_ixN (by omega) (by omega)) ?_
      refine r_if_eq d_L_law_278 (fun c278 => ?_) (fun c278 => ?_)
      · -- taken at 278
        refine r_push (v := nI 0) d_L_law_285 ?_
        refine law_M (b' := (c1, c2)) hM9 hQ9 h44 d_L_law_286 rfl rfl (Nat.le_of_ble_eq_true rfl) (Nat.le_refl _) (Nat.le_refl _) ?_
        intro h8 hJ8
        refine r_icmp_eq d_L_law_289 (fun c289 => ?_) (fun c289 => ?_)
        · -- taken at 289
          exact K _ hJ8
        · -- not taken at 289
          exact absurd rfl c289
      · -- not taken at 278
        exact absurd ez c278
    · -- not taken at 251
      exact absurd ez c251
  ·
    refine r_aload_1 d_L_law_235 ?_
    refine r_aload_0 d_L_law_236 ?_
    refine r_iload_3 d_L_law_237 ?_
    refine r_push (v := nI 1) d_L_law_238 ?_
    refine r_iadd d_L_law_239 ?_
    rw [nI_add]
    refine r_sld d_L_law_240 h0 (pm_ixN (by omega) (by omega)) ?_
    refine r_aload_0 d_L_law_241 ?_
    refine r_iload_3 d_L_law_242 ?_
    refine r_push (v := nI 2) d_L_law_243 ?_
    refine r_iadd d_L_law_244 ?_
    rw [nI_add]
    refine r_sld d_L_law_245 h0 (pm_ixN (by omega) (by omega)) ?_
    refine r_aload_0 d_L_law_246 ?_
    refine r_iload_3 d_L_law_247 ?_
    refine r_push (v := nI 3) d_L_law_248 ?_
    refine r_iadd d_L_law_249 ?_
    rw [nI_add]
    refine r_sld d_L_law_250 h0 (pm_ixN (by omega) (by omega)) ?_
    refine r_if_eq d_L_law_251 (fun c251 => ?_) (fun c251 => ?_)
    · -- taken at 251
      exact absurd c251 ez
    · -- not taken at 251
      refine r_push (v := nI 1) d_L_law_254 ?_
      refine r_goto d_L_law_255 ?_
      refine law_X (b' := (c1, c2)) (j_stalks (f := 1) (by decide) hJJ) hJJ d_L_law_259 rfl rfl (Nat.le_of_ble_eq_true rfl) (Nat.add_le_add_left (by decide) _) (Nat.add_le_add_left (by decide) _) ?_
      intro x9 h9 Q9 fs9 hs9 h44 hM9 hQ9
      refine r_aload_2 d_L_law_262 ?_
      refine r_aload_0 d_L_law_263 ?_
      refine r_iload_3 d_L_law_264 ?_
      refine r_push (v := nI 1) d_L_law_265 ?_
      refine r_iadd d_L_law_266 ?_
      rw [nI_add]
      refine r_sld d_L_law_267 hs9 (pm_ixN (by omega) (by omega)) ?_
      refine r_aload_0 d_L_law_268 ?_
      refine r_iload_3 d_L_law_269 ?_
      refine r_push (v := nI 2) d_L_law_270 ?_
      refine r_iadd d_L_law_271 ?_
      rw [nI_add]
      refine r_sld d_L_law_272 hs9 (pm_ixN (by omega) (by omega)) ?_
      refine r_aload_0 d_L_law_273 ?_
      refine r_iload_3 d_L_law_274 ?_
      refine r_push (v := nI 3) d_L_law_275 ?_
      refine r_iadd d_L_law_276 ?_
      rw [nI_add]
      refine r_sld d_L_law_277 hs9 (pm_ixN (by omega) (by omega)) ?_
      refine r_if_eq d_L_law_278 (fun c278 => ?_) (fun c278 => ?_)
      · -- taken at 278
        exact absurd c278 ez
      · -- not taken at 278
        refine r_push (v := nI 1) d_L_law_281 ?_
        refine r_goto d_L_law_282 ?_
        refine law_M (b' := (c1, c2)) hM9 hQ9 h44 d_L_law_286 rfl rfl (Nat.le_of_ble_eq_true rfl) (Nat.le_refl _) (Nat.le_refl _) ?_
        intro h8 hJ8
        refine r_icmp_eq d_L_law_289 (fun c289 => ?_) (fun c289 => ?_)
        · -- taken at 289
          exact K _ hJ8
        · -- not taken at 289
          exact absurd rfl c289
set_option maxRecDepth 10000 in
set_option maxHeartbeats 4000000 in
theorem lc_2 {N9 i c1 c2 : Nat} {xs : Nat → Int32} {H : pm_H} {F : Option Value → pm_H → Prop} (hN : N9 ≤ 3072) (hi6 : i + 6 ≤ N9) (hJJ : JJ (.inl (.array .int, N9, .inl xs) : pm_C) H) (K : ∀ h2, JJ (.inl (.array .int, N9, .inl xs) : pm_C) h2 → pm_V e_L_law 1529 [some (.ref 0), some (.ref 1), some (.ref 44), some (.int (nI i))] [] h2 (c1, c2) F) : pm_V e_L_law 294 [some (.ref 0), some (.ref 1), some (.ref 44), some (.int (nI i))] [] H (c1 + 1, c2 + 5) F := by
  have h0 := JJ_0 hJJ
  by_cases ez : xs (i + 3) = 0
  ·
    refine r_aload_1 d_L_law_294 ?_
    refine r_aload_0 d_L_law_295 ?_
    refine r_iload_3 d_L_law_296 ?_
    refine r_push (v := nI 1) d_L_law_297 ?_
    refine r_iadd d_L_law_298 ?_
    rw [nI_add]
    refine r_sld d_L_law_299 h0 (pm_ixN (by omega) (by omega)) ?_
    refine r_aload_0 d_L_law_300 ?_
    refine r_iload_3 d_L_law_301 ?_
    refine r_push (v := nI 2) d_L_law_302 ?_
    refine r_iadd d_L_law_303 ?_
    rw [nI_add]
    refine r_sld d_L_law_304 h0 (pm_ixN (by omega) (by omega)) ?_
    refine r_aload_0 d_L_law_305 ?_
    refine r_iload_3 d_L_law_306 ?_
    refine r_push (v := nI 3) d_L_law_307 ?_
    refine r_iadd d_L_law_308 ?_
    rw [nI_add]
    refine r_sld d_L_law_309 h0 (pm_ixN (by omega) (by omega)) ?_
    refine r_if_eq d_L_law_310 (fun c310 => ?_) (fun c310 => ?_)
    · -- taken at 310
      refine r_push (v := nI 0) d_L_law_317 ?_
      refine r_aload_0 d_L_law_318 ?_
      refine r_iload_3 d_L_law_319 ?_
      refine r_push (v := nI 4) d_L_law_320 ?_
      refine r_iadd d_L_law_321 ?_
      rw [nI_add]
      refine r_sld d_L_law_322 h0 (pm_ixN (by omega) (by omega)) ?_
      refine r_aload_0 d_L_law_323 ?_
      refine r_iload_3 d_L_law_324 ?_
      refine r_push (v := nI 5) d_L_law_325 ?_
      refine r_iadd d_L_law_326 ?_
      rw [nI_add]
      refine r_sld d_L_law_327 h0 (pm_ixN (by omega) (by omega)) ?_
      refine law_X (b' := (c1, c2)) (j_thumb (f := 0) (by decide) hJJ) hJJ d_L_law_328 rfl rfl (Nat.le_of_ble_eq_true rfl) (Nat.add_le_add_left (by decide) _) (Nat.add_le_add_left (by decide) _) ?_
      intro x9 h9 Q9 fs9 hs9 h44 hM9 hQ9
      refine r_aload_2 d_L_law_331 ?_
      refine r_aload_0 d_L_law_332 ?_
      refine r_iload_3 d_L_law_333 ?_
      refine r_push (v := nI 1) d_L_law_334 ?_
      refine r_iadd d_L_law_335 ?_
      rw [nI_add]
      refine r_sld d_L_law_336 hs9 (pm_ixN (by omega) (by omega)) ?_
      refine r_aload_0 d_L_law_337 ?_
      refine r_iload_3 d_L_law_338 ?_
      refine r_push (v := nI 2) d_L_law_339 ?_
      refine r_iadd d_L_law_340 ?_
      rw [nI_add]
      refine r_sld d_L_law_341 hs9 (pm_ixN (by omega) (by omega)) ?_
      refine r_aload_0 d_L_law_342 ?_
      refine r_iload_3 d_L_law_343 ?_
      refine r_push (v := nI 3) d_L_law_344 ?_
      refine r_iadd d_L_law_345 ?_
      rw [nI_add]
      refine r_sld d_L_law_346 hs9 (pm_ixN (by omega) (by omega)) ?_
      refine r_if_eq d_L_law_347 (fun c347 => ?_) (fun c347 => ?_)
      · -- taken at 347
        refine r_push (v := nI 0) d_L_law_354 ?_
        refine r_aload_0 d_L_law_355 ?_
        refine r_iload_3 d_L_law_356 ?_
        refine r_push (v := nI 4) d_L_law_357 ?_
        refine r_iadd d_L_law_358 ?_
        rw [nI_add]
        refine r_sld d_L_law_359 hs9 (pm_ixN (by omega) (by omega)) ?_
        refine r_aload_0 d_L_law_360 ?_
        refine r_iload_3 d_L_law_361 ?_
        refine r_push (v := nI 5) d_L_law_362 ?_
        refine r_iadd d_L_law_363 ?_
        rw [nI_add]
        refine r_sld d_L_law_364 hs9 (pm_ixN (by omega) (by omega)) ?_
        refine law_M (b' := (c1, c2)) hM9 hQ9 h44 d_L_law_365 rfl rfl (Nat.le_of_ble_eq_true rfl) (Nat.le_refl _) (Nat.le_refl _) ?_
        intro h8 hJ8
        refine r_icmp_eq d_L_law_368 (fun c368 => ?_) (fun c368 => ?_)
        · -- taken at 368
          exact K _ hJ8
        · -- not taken at 368
          exact absurd rfl c368
      · -- not taken at 347
        exact absurd ez c347
    · -- not taken at 310
      exact absurd ez c310
  ·
    refine r_aload_1 d_L_law_294 ?_
    refine r_aload_0 d_L_law_295 ?_
    refine r_iload_3 d_L_law_296 ?_
    refine r_push (v := nI 1) d_L_law_297 ?_
    refine r_iadd d_L_law_298 ?_
    rw [nI_add]
    refine r_sld d_L_law_299 h0 (pm_ixN (by omega) (by omega)) ?_
    refine r_aload_0 d_L_law_300 ?_
    refine r_iload_3 d_L_law_301 ?_
    refine r_push (v := nI 2) d_L_law_302 ?_
    refine r_iadd d_L_law_303 ?_
    rw [nI_add]
    refine r_sld d_L_law_304 h0 (pm_ixN (by omega) (by omega)) ?_
    refine r_aload_0 d_L_law_305 ?_
    refine r_iload_3 d_L_law_306 ?_
    refine r_push (v := nI 3) d_L_law_307 ?_
    refine r_iadd d_L_law_308 ?_
    rw [nI_add]
    refine r_sld d_L_law_309 h0 (pm_ixN (by omega) (by omega)) ?_
    refine r_if_eq d_L_law_310 (fun c310 => ?_) (fun c310 => ?_)
    · -- taken at 310
      exact absurd c310 ez
    · -- not taken at 310
      refine r_push (v := nI 1) d_L_law_313 ?_
      refine r_goto d_L_law_314 ?_
      refine r_aload_0 d_L_law_318 ?_
      refine r_iload_3 d_L_law_319 ?_
      refine r_push (v := nI 4) d_L_law_320 ?_
      refine r_iadd d_L_law_321 ?_
      rw [nI_add]
      refine r_sld d_L_law_322 h0 (pm_ixN (by omega) (by omega)) ?_
      refine r_aload_0 d_L_law_323 ?_
      refine r_iload_3 d_L_law_324 ?_
      refine r_push (v := nI 5) d_L_law_325 ?_
      refine r_iadd d_L_law_326 ?_
      rw [nI_add]
      refine r_sld d_L_law_327 h0 (pm_ixN (by omega) (by omega)) ?_
      refine law_X (b' := (c1, c2)) (j_thumb (f := 1) (by decide) hJJ) hJJ d_L_law_328 rfl rfl (Nat.le_of_ble_eq_true rfl) (Nat.add_le_add_left (by decide) _) (Nat.add_le_add_left (by decide) _) ?_
      intro x9 h9 Q9 fs9 hs9 h44 hM9 hQ9
      refine r_aload_2 d_L_law_331 ?_
      refine r_aload_0 d_L_law_332 ?_
      refine r_iload_3 d_L_law_333 ?_
      refine r_push (v := nI 1) d_L_law_334 ?_
      refine r_iadd d_L_law_335 ?_
      rw [nI_add]
      refine r_sld d_L_law_336 hs9 (pm_ixN (by omega) (by omega)) ?_
      refine r_aload_0 d_L_law_337 ?_
      refine r_iload_3 d_L_law_338 ?_
      refine r_push (v := nI 2) d_L_law_339 ?_
      refine r_iadd d_L_law_340 ?_
      rw [nI_add]
      refine r_sld d_L_law_341 hs9 (pm_ixN (by omega) (by omega)) ?_
      refine r_aload_0 d_L_law_342 ?_
      refine r_iload_3 d_L_law_343 ?_
      refine r_push (v := nI 3) d_L_law_344 ?_
      refine r_iadd d_L_law_345 ?_
      rw [nI_add]
      refine r_sld d_L_law_346 hs9 (pm_ixN (by omega) (by omega)) ?_
      refine r_if_eq d_L_law_347 (fun c347 => ?_) (fun c347 => ?_)
      · -- taken at 347
        exact absurd c347 ez
      · -- not taken at 347
        refine r_push (v := nI 1) d_L_law_350 ?_
        refine r_goto d_L_law_351 ?_
        refine r_aload_0 d_L_law_355 ?_
        refine r_iload_3 d_L_law_356 ?_
        refine r_push (v := nI 4) d_L_law_357 ?_
        refine r_iadd d_L_law_358 ?_
        rw [nI_add]
        refine r_sld d_L_law_359 hs9 (pm_ixN (by omega) (by omega)) ?_
        refine r_aload_0 d_L_law_360 ?_
        refine r_iload_3 d_L_law_361 ?_
        refine r_push (v := nI 5) d_L_law_362 ?_
        refine r_iadd d_L_law_363 ?_
        rw [nI_add]
        refine r_sld d_L_law_364 hs9 (pm_ixN (by omega) (by omega)) ?_
        refine law_M (b' := (c1, c2)) hM9 hQ9 h44 d_L_law_365 rfl rfl (Nat.le_of_ble_eq_true rfl) (Nat.le_refl _) (Nat.le_refl _) ?_
        intro h8 hJ8
        refine r_icmp_eq d_L_law_368 (fun c368 => ?_) (fun c368 => ?_)
        · -- taken at 368
          exact K _ hJ8
        · -- not taken at 368
          exact absurd rfl c368
set_option maxRecDepth 10000 in
set_option maxHeartbeats 4000000 in
theorem lc_3 {N9 i c1 c2 : Nat} {xs : Nat → Int32} {H : pm_H} {F : Option Value → pm_H → Prop} (hN : N9 ≤ 3072) (hi6 : i + 6 ≤ N9) (hJJ : JJ (.inl (.array .int, N9, .inl xs) : pm_C) H) (K : ∀ h2, JJ (.inl (.array .int, N9, .inl xs) : pm_C) h2 → pm_V e_L_law 1529 [some (.ref 0), some (.ref 1), some (.ref 44), some (.int (nI i))] [] h2 (c1, c2) F) : pm_V e_L_law 373 [some (.ref 0), some (.ref 1), some (.ref 44), some (.int (nI i))] [] H (c1 + 1, c2 + 5) F := by
  have h0 := JJ_0 hJJ
  refine r_aload_1 d_L_law_373 ?_
  refine r_aload_0 d_L_law_374 ?_
  refine r_iload_3 d_L_law_375 ?_
  refine r_push (v := nI 1) d_L_law_376 ?_
  refine r_iadd d_L_law_377 ?_
  rw [nI_add]
  refine r_sld d_L_law_378 h0 (pm_ixN (by omega) (by omega)) ?_
  refine r_aload_0 d_L_law_379 ?_
  refine r_iload_3 d_L_law_380 ?_
  refine r_push (v := nI 2) d_L_law_381 ?_
  refine r_iadd d_L_law_382 ?_
  rw [nI_add]
  refine r_sld d_L_law_383 h0 (pm_ixN (by omega) (by omega)) ?_
  refine law_X (b' := (c1, c2)) (j_told hJJ) hJJ d_L_law_384 rfl rfl (Nat.le_of_ble_eq_true rfl) (Nat.add_le_add_left (by decide) _) (Nat.add_le_add_left (by decide) _) ?_
  intro x9 h9 Q9 fs9 hs9 h44 hM9 hQ9
  refine r_aload_2 d_L_law_387 ?_
  refine r_aload_0 d_L_law_388 ?_
  refine r_iload_3 d_L_law_389 ?_
  refine r_push (v := nI 1) d_L_law_390 ?_
  refine r_iadd d_L_law_391 ?_
  rw [nI_add]
  refine r_sld d_L_law_392 hs9 (pm_ixN (by omega) (by omega)) ?_
  refine r_aload_0 d_L_law_393 ?_
  refine r_iload_3 d_L_law_394 ?_
  refine r_push (v := nI 2) d_L_law_395 ?_
  refine r_iadd d_L_law_396 ?_
  rw [nI_add]
  refine r_sld d_L_law_397 hs9 (pm_ixN (by omega) (by omega)) ?_
  refine law_M (b' := (c1, c2)) hM9 hQ9 h44 d_L_law_398 rfl rfl (Nat.le_of_ble_eq_true rfl) (Nat.le_refl _) (Nat.le_refl _) ?_
  intro h8 hJ8
  refine r_icmp_eq d_L_law_401 (fun c401 => ?_) (fun c401 => ?_)
  · -- taken at 401
    exact K _ hJ8
  · -- not taken at 401
    exact absurd rfl c401
set_option maxRecDepth 10000 in
set_option maxHeartbeats 4000000 in
theorem lc_4 {N9 i c1 c2 : Nat} {xs : Nat → Int32} {H : pm_H} {F : Option Value → pm_H → Prop} (hN : N9 ≤ 3072) (hi6 : i + 6 ≤ N9) (hJJ : JJ (.inl (.array .int, N9, .inl xs) : pm_C) H) (K : ∀ h2, JJ (.inl (.array .int, N9, .inl xs) : pm_C) h2 → pm_V e_L_law 1529 [some (.ref 0), some (.ref 1), some (.ref 44), some (.int (nI i))] [] h2 (c1, c2) F) : pm_V e_L_law 406 [some (.ref 0), some (.ref 1), some (.ref 44), some (.int (nI i))] [] H (c1 + 1, c2 + 5) F := by
  have h0 := JJ_0 hJJ
  refine r_aload_1 d_L_law_406 ?_
  refine r_aload_0 d_L_law_407 ?_
  refine r_iload_3 d_L_law_408 ?_
  refine r_push (v := nI 1) d_L_law_409 ?_
  refine r_iadd d_L_law_410 ?_
  rw [nI_add]
  refine r_sld d_L_law_411 h0 (pm_ixN (by omega) (by omega)) ?_
  refine r_aload_0 d_L_law_412 ?_
  refine r_iload_3 d_L_law_413 ?_
  refine r_push (v := nI 2) d_L_law_414 ?_
  refine r_iadd d_L_law_415 ?_
  rw [nI_add]
  refine r_sld d_L_law_416 h0 (pm_ixN (by omega) (by omega)) ?_
  refine law_X (b' := (c1, c2)) (j_mark hJJ) hJJ d_L_law_417 rfl rfl (Nat.le_of_ble_eq_true rfl) (Nat.add_le_add_left (by decide) _) (Nat.add_le_add_left (by decide) _) ?_
  intro x9 h9 Q9 fs9 hs9 h44 hM9 hQ9
  refine r_aload_2 d_L_law_420 ?_
  refine r_aload_0 d_L_law_421 ?_
  refine r_iload_3 d_L_law_422 ?_
  refine r_push (v := nI 1) d_L_law_423 ?_
  refine r_iadd d_L_law_424 ?_
  rw [nI_add]
  refine r_sld d_L_law_425 hs9 (pm_ixN (by omega) (by omega)) ?_
  refine r_aload_0 d_L_law_426 ?_
  refine r_iload_3 d_L_law_427 ?_
  refine r_push (v := nI 2) d_L_law_428 ?_
  refine r_iadd d_L_law_429 ?_
  rw [nI_add]
  refine r_sld d_L_law_430 hs9 (pm_ixN (by omega) (by omega)) ?_
  refine law_M (b' := (c1, c2)) hM9 hQ9 h44 d_L_law_431 rfl rfl (Nat.le_of_ble_eq_true rfl) (Nat.le_refl _) (Nat.le_refl _) ?_
  intro h8 hJ8
  refine r_icmp_eq d_L_law_434 (fun c434 => ?_) (fun c434 => ?_)
  · -- taken at 434
    exact K _ hJ8
  · -- not taken at 434
    exact absurd rfl c434
set_option maxRecDepth 10000 in
set_option maxHeartbeats 4000000 in
theorem lc_5 {N9 i c1 c2 : Nat} {xs : Nat → Int32} {H : pm_H} {F : Option Value → pm_H → Prop} (hN : N9 ≤ 3072) (hi6 : i + 6 ≤ N9) (hJJ : JJ (.inl (.array .int, N9, .inl xs) : pm_C) H) (K : ∀ h2, JJ (.inl (.array .int, N9, .inl xs) : pm_C) h2 → pm_V e_L_law 1529 [some (.ref 0), some (.ref 1), some (.ref 44), some (.int (nI i))] [] h2 (c1, c2) F) : pm_V e_L_law 439 [some (.ref 0), some (.ref 1), some (.ref 44), some (.int (nI i))] [] H (c1 + 1, c2 + 5) F := by
  have h0 := JJ_0 hJJ
  refine r_aload_1 d_L_law_439 ?_
  refine r_aload_0 d_L_law_440 ?_
  refine r_iload_3 d_L_law_441 ?_
  refine r_push (v := nI 1) d_L_law_442 ?_
  refine r_iadd d_L_law_443 ?_
  rw [nI_add]
  refine r_sld d_L_law_444 h0 (pm_ixN (by omega) (by omega)) ?_
  refine r_aload_0 d_L_law_445 ?_
  refine r_iload_3 d_L_law_446 ?_
  refine r_push (v := nI 2) d_L_law_447 ?_
  refine r_iadd d_L_law_448 ?_
  rw [nI_add]
  refine r_sld d_L_law_449 h0 (pm_ixN (by omega) (by omega)) ?_
  refine r_aload_0 d_L_law_450 ?_
  refine r_iload_3 d_L_law_451 ?_
  refine r_push (v := nI 3) d_L_law_452 ?_
  refine r_iadd d_L_law_453 ?_
  rw [nI_add]
  refine r_sld d_L_law_454 h0 (pm_ixN (by omega) (by omega)) ?_
  refine law_X (b' := (c1, c2)) (j_part hJJ) hJJ d_L_law_455 rfl rfl (Nat.le_of_ble_eq_true rfl) (Nat.add_le_add_left (by decide) _) (Nat.add_le_add_left (by decide) _) ?_
  intro x9 h9 Q9 fs9 hs9 h44 hM9 hQ9
  refine r_aload_2 d_L_law_458 ?_
  refine r_aload_0 d_L_law_459 ?_
  refine r_iload_3 d_L_law_460 ?_
  refine r_push (v := nI 1) d_L_law_461 ?_
  refine r_iadd d_L_law_462 ?_
  rw [nI_add]
  refine r_sld d_L_law_463 hs9 (pm_ixN (by omega) (by omega)) ?_
  refine r_aload_0 d_L_law_464 ?_
  refine r_iload_3 d_L_law_465 ?_
  refine r_push (v := nI 2) d_L_law_466 ?_
  refine r_iadd d_L_law_467 ?_
  rw [nI_add]
  refine r_sld d_L_law_468 hs9 (pm_ixN (by omega) (by omega)) ?_
  refine r_aload_0 d_L_law_469 ?_
  refine r_iload_3 d_L_law_470 ?_
  refine r_push (v := nI 3) d_L_law_471 ?_
  refine r_iadd d_L_law_472 ?_
  rw [nI_add]
  refine r_sld d_L_law_473 hs9 (pm_ixN (by omega) (by omega)) ?_
  refine law_M (b' := (c1, c2)) hM9 hQ9 h44 d_L_law_474 rfl rfl (Nat.le_of_ble_eq_true rfl) (Nat.le_refl _) (Nat.le_refl _) ?_
  intro h8 hJ8
  refine r_icmp_eq d_L_law_477 (fun c477 => ?_) (fun c477 => ?_)
  · -- taken at 477
    exact K _ hJ8
  · -- not taken at 477
    exact absurd rfl c477
set_option maxRecDepth 10000 in
set_option maxHeartbeats 4000000 in
theorem lc_6 {N9 i c1 c2 : Nat} {xs : Nat → Int32} {H : pm_H} {F : Option Value → pm_H → Prop} (hN : N9 ≤ 3072) (hi6 : i + 6 ≤ N9) (hJJ : JJ (.inl (.array .int, N9, .inl xs) : pm_C) H) (K : ∀ h2, JJ (.inl (.array .int, N9, .inl xs) : pm_C) h2 → pm_V e_L_law 1529 [some (.ref 0), some (.ref 1), some (.ref 44), some (.int (nI i))] [] h2 (c1, c2) F) : pm_V e_L_law 482 [some (.ref 0), some (.ref 1), some (.ref 44), some (.int (nI i))] [] H (c1 + 1, c2 + 5) F := by
  have h0 := JJ_0 hJJ
  refine r_aload_1 d_L_law_482 ?_
  refine r_aload_0 d_L_law_483 ?_
  refine r_iload_3 d_L_law_484 ?_
  refine r_push (v := nI 1) d_L_law_485 ?_
  refine r_iadd d_L_law_486 ?_
  rw [nI_add]
  refine r_sld d_L_law_487 h0 (pm_ixN (by omega) (by omega)) ?_
  refine r_aload_0 d_L_law_488 ?_
  refine r_iload_3 d_L_law_489 ?_
  refine r_push (v := nI 2) d_L_law_490 ?_
  refine r_iadd d_L_law_491 ?_
  rw [nI_add]
  refine r_sld d_L_law_492 h0 (pm_ixN (by omega) (by omega)) ?_
  refine r_aload_0 d_L_law_493 ?_
  refine r_iload_3 d_L_law_494 ?_
  refine r_push (v := nI 3) d_L_law_495 ?_
  refine r_iadd d_L_law_496 ?_
  rw [nI_add]
  refine r_sld d_L_law_497 h0 (pm_ixN (by omega) (by omega)) ?_
  refine r_aload_0 d_L_law_498 ?_
  refine r_iload_3 d_L_law_499 ?_
  refine r_push (v := nI 4) d_L_law_500 ?_
  refine r_iadd d_L_law_501 ?_
  rw [nI_add]
  refine r_sld d_L_law_502 h0 (pm_ixN (by omega) (by omega)) ?_
  refine law_X (b' := (c1, c2)) (j_line hJJ) hJJ d_L_law_503 rfl rfl (Nat.le_of_ble_eq_true rfl) (Nat.add_le_add_left (by decide) _) (Nat.add_le_add_left (by decide) _) ?_
  intro x9 h9 Q9 fs9 hs9 h44 hM9 hQ9
  refine r_aload_2 d_L_law_506 ?_
  refine r_aload_0 d_L_law_507 ?_
  refine r_iload_3 d_L_law_508 ?_
  refine r_push (v := nI 1) d_L_law_509 ?_
  refine r_iadd d_L_law_510 ?_
  rw [nI_add]
  refine r_sld d_L_law_511 hs9 (pm_ixN (by omega) (by omega)) ?_
  refine r_aload_0 d_L_law_512 ?_
  refine r_iload_3 d_L_law_513 ?_
  refine r_push (v := nI 2) d_L_law_514 ?_
  refine r_iadd d_L_law_515 ?_
  rw [nI_add]
  refine r_sld d_L_law_516 hs9 (pm_ixN (by omega) (by omega)) ?_
  refine r_aload_0 d_L_law_517 ?_
  refine r_iload_3 d_L_law_518 ?_
  refine r_push (v := nI 3) d_L_law_519 ?_
  refine r_iadd d_L_law_520 ?_
  rw [nI_add]
  refine r_sld d_L_law_521 hs9 (pm_ixN (by omega) (by omega)) ?_
  refine r_aload_0 d_L_law_522 ?_
  refine r_iload_3 d_L_law_523 ?_
  refine r_push (v := nI 4) d_L_law_524 ?_
  refine r_iadd d_L_law_525 ?_
  rw [nI_add]
  refine r_sld d_L_law_526 hs9 (pm_ixN (by omega) (by omega)) ?_
  refine law_M (b' := (c1, c2)) hM9 hQ9 h44 d_L_law_527 rfl rfl (Nat.le_of_ble_eq_true rfl) (Nat.le_refl _) (Nat.le_refl _) ?_
  intro h8 hJ8
  refine r_icmp_eq d_L_law_530 (fun c530 => ?_) (fun c530 => ?_)
  · -- taken at 530
    exact K _ hJ8
  · -- not taken at 530
    exact absurd rfl c530
set_option maxRecDepth 10000 in
set_option maxHeartbeats 4000000 in
theorem lc_7 {N9 i c1 c2 : Nat} {xs : Nat → Int32} {H : pm_H} {F : Option Value → pm_H → Prop} (hN : N9 ≤ 3072) (hi6 : i + 6 ≤ N9) (hJJ : JJ (.inl (.array .int, N9, .inl xs) : pm_C) H) (K : ∀ h2, JJ (.inl (.array .int, N9, .inl xs) : pm_C) h2 → pm_V e_L_law 1529 [some (.ref 0), some (.ref 1), some (.ref 44), some (.int (nI i))] [] h2 (c1, c2) F) : pm_V e_L_law 535 [some (.ref 0), some (.ref 1), some (.ref 44), some (.int (nI i))] [] H (c1 + 1, c2 + 5) F := by
  have h0 := JJ_0 hJJ
  refine r_aload_1 d_L_law_535 ?_
  refine r_aload_0 d_L_law_536 ?_
  refine r_iload_3 d_L_law_537 ?_
  refine r_push (v := nI 1) d_L_law_538 ?_
  refine r_iadd d_L_law_539 ?_
  rw [nI_add]
  refine r_sld d_L_law_540 h0 (pm_ixN (by omega) (by omega)) ?_
  refine r_aload_0 d_L_law_541 ?_
  refine r_iload_3 d_L_law_542 ?_
  refine r_push (v := nI 2) d_L_law_543 ?_
  refine r_iadd d_L_law_544 ?_
  rw [nI_add]
  refine r_sld d_L_law_545 h0 (pm_ixN (by omega) (by omega)) ?_
  refine law_X (b' := (c1, c2)) (j_odds hJJ) hJJ d_L_law_546 rfl rfl (Nat.le_of_ble_eq_true rfl) (Nat.add_le_add_left (by decide) _) (Nat.add_le_add_left (by decide) _) ?_
  intro x9 h9 Q9 fs9 hs9 h44 hM9 hQ9
  refine r_aload_2 d_L_law_549 ?_
  refine r_aload_0 d_L_law_550 ?_
  refine r_iload_3 d_L_law_551 ?_
  refine r_push (v := nI 1) d_L_law_552 ?_
  refine r_iadd d_L_law_553 ?_
  rw [nI_add]
  refine r_sld d_L_law_554 hs9 (pm_ixN (by omega) (by omega)) ?_
  refine r_aload_0 d_L_law_555 ?_
  refine r_iload_3 d_L_law_556 ?_
  refine r_push (v := nI 2) d_L_law_557 ?_
  refine r_iadd d_L_law_558 ?_
  rw [nI_add]
  refine r_sld d_L_law_559 hs9 (pm_ixN (by omega) (by omega)) ?_
  refine law_M (b' := (c1, c2)) hM9 hQ9 h44 d_L_law_560 rfl rfl (Nat.le_of_ble_eq_true rfl) (Nat.le_refl _) (Nat.le_refl _) ?_
  intro h8 hJ8
  refine r_icmp_eq d_L_law_563 (fun c563 => ?_) (fun c563 => ?_)
  · -- taken at 563
    exact K _ hJ8
  · -- not taken at 563
    exact absurd rfl c563
set_option maxRecDepth 10000 in
set_option maxHeartbeats 4000000 in
theorem lc_8 {N9 i c1 c2 : Nat} {xs : Nat → Int32} {H : pm_H} {F : Option Value → pm_H → Prop} (hN : N9 ≤ 3072) (hi6 : i + 6 ≤ N9) (hJJ : JJ (.inl (.array .int, N9, .inl xs) : pm_C) H) (K : ∀ h2, JJ (.inl (.array .int, N9, .inl xs) : pm_C) h2 → pm_V e_L_law 1529 [some (.ref 0), some (.ref 1), some (.ref 44), some (.int (nI i))] [] h2 (c1, c2) F) : pm_V e_L_law 568 [some (.ref 0), some (.ref 1), some (.ref 44), some (.int (nI i))] [] H (c1 + 1, c2 + 5) F := by
  have h0 := JJ_0 hJJ
  refine r_aload_1 d_L_law_568 ?_
  refine r_aload_0 d_L_law_569 ?_
  refine r_iload_3 d_L_law_570 ?_
  refine r_push (v := nI 1) d_L_law_571 ?_
  refine r_iadd d_L_law_572 ?_
  rw [nI_add]
  refine r_sld d_L_law_573 h0 (pm_ixN (by omega) (by omega)) ?_
  refine law_X (b' := (c1, c2)) (j_mean hJJ) hJJ d_L_law_574 rfl rfl (Nat.le_of_ble_eq_true rfl) (Nat.add_le_add_left (by decide) _) (Nat.add_le_add_left (by decide) _) ?_
  intro x9 h9 Q9 fs9 hs9 h44 hM9 hQ9
  refine r_aload_2 d_L_law_577 ?_
  refine r_aload_0 d_L_law_578 ?_
  refine r_iload_3 d_L_law_579 ?_
  refine r_push (v := nI 1) d_L_law_580 ?_
  refine r_iadd d_L_law_581 ?_
  rw [nI_add]
  refine r_sld d_L_law_582 hs9 (pm_ixN (by omega) (by omega)) ?_
  refine law_M (b' := (c1, c2)) hM9 hQ9 h44 d_L_law_583 rfl rfl (Nat.le_of_ble_eq_true rfl) (Nat.le_refl _) (Nat.le_refl _) ?_
  intro h8 hJ8
  refine r_icmp_eq d_L_law_586 (fun c586 => ?_) (fun c586 => ?_)
  · -- taken at 586
    exact K _ hJ8
  · -- not taken at 586
    exact absurd rfl c586
set_option maxRecDepth 10000 in
set_option maxHeartbeats 4000000 in
theorem lc_9 {N9 i c1 c2 : Nat} {xs : Nat → Int32} {H : pm_H} {F : Option Value → pm_H → Prop} (hN : N9 ≤ 3072) (hi6 : i + 6 ≤ N9) (hJJ : JJ (.inl (.array .int, N9, .inl xs) : pm_C) H) (K : ∀ h2, JJ (.inl (.array .int, N9, .inl xs) : pm_C) h2 → pm_V e_L_law 1529 [some (.ref 0), some (.ref 1), some (.ref 44), some (.int (nI i))] [] h2 (c1, c2) F) : pm_V e_L_law 591 [some (.ref 0), some (.ref 1), some (.ref 44), some (.int (nI i))] [] H (c1 + 1, c2 + 5) F := by
  have h0 := JJ_0 hJJ
  refine r_aload_1 d_L_law_591 ?_
  refine r_aload_0 d_L_law_592 ?_
  refine r_iload_3 d_L_law_593 ?_
  refine r_push (v := nI 1) d_L_law_594 ?_
  refine r_iadd d_L_law_595 ?_
  rw [nI_add]
  refine r_sld d_L_law_596 h0 (pm_ixN (by omega) (by omega)) ?_
  refine r_aload_0 d_L_law_597 ?_
  refine r_iload_3 d_L_law_598 ?_
  refine r_push (v := nI 2) d_L_law_599 ?_
  refine r_iadd d_L_law_600 ?_
  rw [nI_add]
  refine r_sld d_L_law_601 h0 (pm_ixN (by omega) (by omega)) ?_
  refine r_i2l d_L_law_602 ?_
  refine r_push (v := nI 32) d_L_law_603 ?_
  refine r_lshl d_L_law_605 ?_
  refine r_aload_0 d_L_law_606 ?_
  refine r_iload_3 d_L_law_607 ?_
  refine r_push (v := nI 3) d_L_law_608 ?_
  refine r_iadd d_L_law_609 ?_
  rw [nI_add]
  refine r_sld d_L_law_610 h0 (pm_ixN (by omega) (by omega)) ?_
  refine r_i2l d_L_law_611 ?_
  refine r_pushl (v := lN 4294967295) d_L_law_612 ?_
  refine r_land d_L_law_615 ?_
  refine r_lor d_L_law_616 ?_
  refine law_X (b' := (c1, c2)) (j_drawn hJJ) hJJ d_L_law_617 rfl rfl (Nat.le_of_ble_eq_true rfl) (Nat.add_le_add_left (by decide) _) (Nat.add_le_add_left (by decide) _) ?_
  intro x9 h9 Q9 fs9 hs9 h44 hM9 hQ9
  refine r_aload_2 d_L_law_620 ?_
  refine r_aload_0 d_L_law_621 ?_
  refine r_iload_3 d_L_law_622 ?_
  refine r_push (v := nI 1) d_L_law_623 ?_
  refine r_iadd d_L_law_624 ?_
  rw [nI_add]
  refine r_sld d_L_law_625 hs9 (pm_ixN (by omega) (by omega)) ?_
  refine r_aload_0 d_L_law_626 ?_
  refine r_iload_3 d_L_law_627 ?_
  refine r_push (v := nI 2) d_L_law_628 ?_
  refine r_iadd d_L_law_629 ?_
  rw [nI_add]
  refine r_sld d_L_law_630 hs9 (pm_ixN (by omega) (by omega)) ?_
  refine r_i2l d_L_law_631 ?_
  refine r_push (v := nI 32) d_L_law_632 ?_
  refine r_lshl d_L_law_634 ?_
  refine r_aload_0 d_L_law_635 ?_
  refine r_iload_3 d_L_law_636 ?_
  refine r_push (v := nI 3) d_L_law_637 ?_
  refine r_iadd d_L_law_638 ?_
  rw [nI_add]
  refine r_sld d_L_law_639 hs9 (pm_ixN (by omega) (by omega)) ?_
  refine r_i2l d_L_law_640 ?_
  refine r_pushl (v := lN 4294967295) d_L_law_641 ?_
  refine r_land d_L_law_644 ?_
  refine r_lor d_L_law_645 ?_
  refine law_M (b' := (c1, c2)) hM9 hQ9 h44 d_L_law_646 rfl rfl (Nat.le_of_ble_eq_true rfl) (Nat.le_refl _) (Nat.le_refl _) ?_
  intro h8 hJ8
  refine r_icmp_eq d_L_law_649 (fun c649 => ?_) (fun c649 => ?_)
  · -- taken at 649
    exact K _ hJ8
  · -- not taken at 649
    exact absurd rfl c649
set_option maxRecDepth 10000 in
set_option maxHeartbeats 4000000 in
theorem lc_10 {N9 i c1 c2 : Nat} {xs : Nat → Int32} {H : pm_H} {F : Option Value → pm_H → Prop} (hN : N9 ≤ 3072) (hi6 : i + 6 ≤ N9) (hJJ : JJ (.inl (.array .int, N9, .inl xs) : pm_C) H) (K : ∀ h2, JJ (.inl (.array .int, N9, .inl xs) : pm_C) h2 → pm_V e_L_law 1529 [some (.ref 0), some (.ref 1), some (.ref 44), some (.int (nI i))] [] h2 (c1, c2) F) : pm_V e_L_law 654 [some (.ref 0), some (.ref 1), some (.ref 44), some (.int (nI i))] [] H (c1 + 1, c2 + 5) F := by
  have h0 := JJ_0 hJJ
  refine r_aload_1 d_L_law_654 ?_
  refine r_aload_0 d_L_law_655 ?_
  refine r_iload_3 d_L_law_656 ?_
  refine r_push (v := nI 1) d_L_law_657 ?_
  refine r_iadd d_L_law_658 ?_
  rw [nI_add]
  refine r_sld d_L_law_659 h0 (pm_ixN (by omega) (by omega)) ?_
  refine r_aload_0 d_L_law_660 ?_
  refine r_iload_3 d_L_law_661 ?_
  refine r_push (v := nI 2) d_L_law_662 ?_
  refine r_iadd d_L_law_663 ?_
  rw [nI_add]
  refine r_sld d_L_law_664 h0 (pm_ixN (by omega) (by omega)) ?_
  refine r_aload_0 d_L_law_665 ?_
  refine r_iload_3 d_L_law_666 ?_
  refine r_push (v := nI 3) d_L_law_667 ?_
  refine r_iadd d_L_law_668 ?_
  rw [nI_add]
  refine r_sld d_L_law_669 h0 (pm_ixN (by omega) (by omega)) ?_
  refine law_X (b' := (c1, c2)) (j_set hJJ) hJJ d_L_law_670 rfl rfl (Nat.le_of_ble_eq_true rfl) (Nat.add_le_add_left (by decide) _) (Nat.add_le_add_left (by decide) _) ?_
  intro x9 h9 Q9 fs9 hs9 h44 hM9 hQ9
  refine r_aload_2 d_L_law_673 ?_
  refine r_aload_0 d_L_law_674 ?_
  refine r_iload_3 d_L_law_675 ?_
  refine r_push (v := nI 1) d_L_law_676 ?_
  refine r_iadd d_L_law_677 ?_
  rw [nI_add]
  refine r_sld d_L_law_678 hs9 (pm_ixN (by omega) (by omega)) ?_
  refine r_aload_0 d_L_law_679 ?_
  refine r_iload_3 d_L_law_680 ?_
  refine r_push (v := nI 2) d_L_law_681 ?_
  refine r_iadd d_L_law_682 ?_
  rw [nI_add]
  refine r_sld d_L_law_683 hs9 (pm_ixN (by omega) (by omega)) ?_
  refine r_aload_0 d_L_law_684 ?_
  refine r_iload_3 d_L_law_685 ?_
  refine r_push (v := nI 3) d_L_law_686 ?_
  refine r_iadd d_L_law_687 ?_
  rw [nI_add]
  refine r_sld d_L_law_688 hs9 (pm_ixN (by omega) (by omega)) ?_
  refine law_M (b' := (c1, c2)) hM9 hQ9 h44 d_L_law_689 rfl rfl (Nat.le_of_ble_eq_true rfl) (Nat.le_refl _) (Nat.le_refl _) ?_
  intro h8 hJ8
  refine r_icmp_eq d_L_law_692 (fun c692 => ?_) (fun c692 => ?_)
  · -- taken at 692
    exact K _ hJ8
  · -- not taken at 692
    exact absurd rfl c692
set_option maxRecDepth 10000 in
set_option maxHeartbeats 4000000 in
theorem lc_11 {N9 i c1 c2 : Nat} {xs : Nat → Int32} {H : pm_H} {F : Option Value → pm_H → Prop} (hN : N9 ≤ 3072) (hi6 : i + 6 ≤ N9) (hJJ : JJ (.inl (.array .int, N9, .inl xs) : pm_C) H) (K : ∀ h2, JJ (.inl (.array .int, N9, .inl xs) : pm_C) h2 → pm_V e_L_law 1529 [some (.ref 0), some (.ref 1), some (.ref 44), some (.int (nI i))] [] h2 (c1, c2) F) : pm_V e_L_law 697 [some (.ref 0), some (.ref 1), some (.ref 44), some (.int (nI i))] [] H (c1 + 1, c2 + 5) F := by
  have h0 := JJ_0 hJJ
  refine r_aload_1 d_L_law_697 ?_
  refine r_aload_0 d_L_law_698 ?_
  refine r_iload_3 d_L_law_699 ?_
  refine r_push (v := nI 1) d_L_law_700 ?_
  refine r_iadd d_L_law_701 ?_
  rw [nI_add]
  refine r_sld d_L_law_702 h0 (pm_ixN (by omega) (by omega)) ?_
  refine r_aload_0 d_L_law_703 ?_
  refine r_iload_3 d_L_law_704 ?_
  refine r_push (v := nI 2) d_L_law_705 ?_
  refine r_iadd d_L_law_706 ?_
  rw [nI_add]
  refine r_sld d_L_law_707 h0 (pm_ixN (by omega) (by omega)) ?_
  refine law_X (b' := (c1, c2)) (j_get hJJ) hJJ d_L_law_708 rfl rfl (Nat.le_of_ble_eq_true rfl) (Nat.add_le_add_left (by decide) _) (Nat.add_le_add_left (by decide) _) ?_
  intro x9 h9 Q9 fs9 hs9 h44 hM9 hQ9
  refine r_aload_2 d_L_law_711 ?_
  refine r_aload_0 d_L_law_712 ?_
  refine r_iload_3 d_L_law_713 ?_
  refine r_push (v := nI 1) d_L_law_714 ?_
  refine r_iadd d_L_law_715 ?_
  rw [nI_add]
  refine r_sld d_L_law_716 hs9 (pm_ixN (by omega) (by omega)) ?_
  refine r_aload_0 d_L_law_717 ?_
  refine r_iload_3 d_L_law_718 ?_
  refine r_push (v := nI 2) d_L_law_719 ?_
  refine r_iadd d_L_law_720 ?_
  rw [nI_add]
  refine r_sld d_L_law_721 hs9 (pm_ixN (by omega) (by omega)) ?_
  refine law_M (b' := (c1, c2)) hM9 hQ9 h44 d_L_law_722 rfl rfl (Nat.le_of_ble_eq_true rfl) (Nat.le_refl _) (Nat.le_refl _) ?_
  intro h8 hJ8
  refine r_icmp_eq d_L_law_725 (fun c725 => ?_) (fun c725 => ?_)
  · -- taken at 725
    exact K _ hJ8
  · -- not taken at 725
    exact absurd rfl c725
set_option maxRecDepth 10000 in
set_option maxHeartbeats 4000000 in
theorem lc_12 {N9 i c1 c2 : Nat} {xs : Nat → Int32} {H : pm_H} {F : Option Value → pm_H → Prop} (hN : N9 ≤ 3072) (hi6 : i + 6 ≤ N9) (hJJ : JJ (.inl (.array .int, N9, .inl xs) : pm_C) H) (K : ∀ h2, JJ (.inl (.array .int, N9, .inl xs) : pm_C) h2 → pm_V e_L_law 1529 [some (.ref 0), some (.ref 1), some (.ref 44), some (.int (nI i))] [] h2 (c1, c2) F) : pm_V e_L_law 730 [some (.ref 0), some (.ref 1), some (.ref 44), some (.int (nI i))] [] H (c1 + 1, c2 + 5) F := by
  have h0 := JJ_0 hJJ
  refine r_aload_1 d_L_law_730 ?_
  refine r_aload_0 d_L_law_731 ?_
  refine r_iload_3 d_L_law_732 ?_
  refine r_push (v := nI 1) d_L_law_733 ?_
  refine r_iadd d_L_law_734 ?_
  rw [nI_add]
  refine r_sld d_L_law_735 h0 (pm_ixN (by omega) (by omega)) ?_
  refine r_aload_0 d_L_law_736 ?_
  refine r_iload_3 d_L_law_737 ?_
  refine r_push (v := nI 2) d_L_law_738 ?_
  refine r_iadd d_L_law_739 ?_
  rw [nI_add]
  refine r_sld d_L_law_740 h0 (pm_ixN (by omega) (by omega)) ?_
  refine r_aload_0 d_L_law_741 ?_
  refine r_iload_3 d_L_law_742 ?_
  refine r_push (v := nI 3) d_L_law_743 ?_
  refine r_iadd d_L_law_744 ?_
  rw [nI_add]
  refine r_sld d_L_law_745 h0 (pm_ixN (by omega) (by omega)) ?_
  refine r_i2l d_L_law_746 ?_
  refine r_push (v := nI 32) d_L_law_747 ?_
  refine r_lshl d_L_law_749 ?_
  refine r_aload_0 d_L_law_750 ?_
  refine r_iload_3 d_L_law_751 ?_
  refine r_push (v := nI 4) d_L_law_752 ?_
  refine r_iadd d_L_law_753 ?_
  rw [nI_add]
  refine r_sld d_L_law_754 h0 (pm_ixN (by omega) (by omega)) ?_
  refine r_i2l d_L_law_755 ?_
  refine r_pushl (v := lN 4294967295) d_L_law_756 ?_
  refine r_land d_L_law_759 ?_
  refine r_lor d_L_law_760 ?_
  refine law_X (b' := (c1, c2)) (j_draw hJJ) hJJ d_L_law_761 rfl rfl (Nat.le_of_ble_eq_true rfl) (Nat.add_le_add_left (by decide) _) (Nat.add_le_add_left (by decide) _) ?_
  intro x9 h9 Q9 fs9 hs9 h44 hM9 hQ9
  refine r_aload_2 d_L_law_764 ?_
  refine r_aload_0 d_L_law_765 ?_
  refine r_iload_3 d_L_law_766 ?_
  refine r_push (v := nI 1) d_L_law_767 ?_
  refine r_iadd d_L_law_768 ?_
  rw [nI_add]
  refine r_sld d_L_law_769 hs9 (pm_ixN (by omega) (by omega)) ?_
  refine r_aload_0 d_L_law_770 ?_
  refine r_iload_3 d_L_law_771 ?_
  refine r_push (v := nI 2) d_L_law_772 ?_
  refine r_iadd d_L_law_773 ?_
  rw [nI_add]
  refine r_sld d_L_law_774 hs9 (pm_ixN (by omega) (by omega)) ?_
  refine r_aload_0 d_L_law_775 ?_
  refine r_iload_3 d_L_law_776 ?_
  refine r_push (v := nI 3) d_L_law_777 ?_
  refine r_iadd d_L_law_778 ?_
  rw [nI_add]
  refine r_sld d_L_law_779 hs9 (pm_ixN (by omega) (by omega)) ?_
  refine r_i2l d_L_law_780 ?_
  refine r_push (v := nI 32) d_L_law_781 ?_
  refine r_lshl d_L_law_783 ?_
  refine r_aload_0 d_L_law_784 ?_
  refine r_iload_3 d_L_law_785 ?_
  refine r_push (v := nI 4) d_L_law_786 ?_
  refine r_iadd d_L_law_787 ?_
  rw [nI_add]
  refine r_sld d_L_law_788 hs9 (pm_ixN (by omega) (by omega)) ?_
  refine r_i2l d_L_law_789 ?_
  refine r_pushl (v := lN 4294967295) d_L_law_790 ?_
  refine r_land d_L_law_793 ?_
  refine r_lor d_L_law_794 ?_
  refine law_M (b' := (c1, c2)) hM9 hQ9 h44 d_L_law_795 rfl rfl (Nat.le_of_ble_eq_true rfl) (Nat.le_refl _) (Nat.le_refl _) ?_
  intro h8 hJ8
  refine r_icmp_eq d_L_law_798 (fun c798 => ?_) (fun c798 => ?_)
  · -- taken at 798
    exact K _ hJ8
  · -- not taken at 798
    exact absurd rfl c798
set_option maxRecDepth 10000 in
set_option maxHeartbeats 4000000 in
theorem lc_13 {N9 i c1 c2 : Nat} {xs : Nat → Int32} {H : pm_H} {F : Option Value → pm_H → Prop} (hN : N9 ≤ 3072) (hi6 : i + 6 ≤ N9) (hJJ : JJ (.inl (.array .int, N9, .inl xs) : pm_C) H) (K : ∀ h2, JJ (.inl (.array .int, N9, .inl xs) : pm_C) h2 → pm_V e_L_law 1529 [some (.ref 0), some (.ref 1), some (.ref 44), some (.int (nI i))] [] h2 (c1, c2) F) : pm_V e_L_law 803 [some (.ref 0), some (.ref 1), some (.ref 44), some (.int (nI i))] [] H (c1 + 1, c2 + 5) F := by
  have h0 := JJ_0 hJJ
  refine r_aload_1 d_L_law_803 ?_
  refine r_aload_0 d_L_law_804 ?_
  refine r_iload_3 d_L_law_805 ?_
  refine r_push (v := nI 1) d_L_law_806 ?_
  refine r_iadd d_L_law_807 ?_
  rw [nI_add]
  refine r_sld d_L_law_808 h0 (pm_ixN (by omega) (by omega)) ?_
  refine law_X (b' := (c1, c2)) (j_number hJJ) hJJ d_L_law_809 rfl rfl (Nat.le_of_ble_eq_true rfl) (Nat.add_le_add_left (by decide) _) (Nat.add_le_add_left (by decide) _) ?_
  intro x9 h9 Q9 fs9 hs9 h44 hM9 hQ9
  refine r_aload_2 d_L_law_812 ?_
  refine r_aload_0 d_L_law_813 ?_
  refine r_iload_3 d_L_law_814 ?_
  refine r_push (v := nI 1) d_L_law_815 ?_
  refine r_iadd d_L_law_816 ?_
  rw [nI_add]
  refine r_sld d_L_law_817 hs9 (pm_ixN (by omega) (by omega)) ?_
  refine law_M (b' := (c1, c2)) hM9 hQ9 h44 d_L_law_818 rfl rfl (Nat.le_of_ble_eq_true rfl) (Nat.le_refl _) (Nat.le_refl _) ?_
  intro h8 hJ8
  refine r_icmp_eq d_L_law_821 (fun c821 => ?_) (fun c821 => ?_)
  · -- taken at 821
    exact K _ hJ8
  · -- not taken at 821
    exact absurd rfl c821
set_option maxRecDepth 10000 in
set_option maxHeartbeats 4000000 in
theorem lc_14 {N9 i c1 c2 : Nat} {xs : Nat → Int32} {H : pm_H} {F : Option Value → pm_H → Prop} (hN : N9 ≤ 3072) (hi6 : i + 6 ≤ N9) (hJJ : JJ (.inl (.array .int, N9, .inl xs) : pm_C) H) (K : ∀ h2, JJ (.inl (.array .int, N9, .inl xs) : pm_C) h2 → pm_V e_L_law 1529 [some (.ref 0), some (.ref 1), some (.ref 44), some (.int (nI i))] [] h2 (c1, c2) F) : pm_V e_L_law 826 [some (.ref 0), some (.ref 1), some (.ref 44), some (.int (nI i))] [] H (c1 + 1, c2 + 5) F := by
  have h0 := JJ_0 hJJ
  refine r_aload_1 d_L_law_826 ?_
  refine r_aload_0 d_L_law_827 ?_
  refine r_iload_3 d_L_law_828 ?_
  refine r_push (v := nI 1) d_L_law_829 ?_
  refine r_iadd d_L_law_830 ?_
  rw [nI_add]
  refine r_sld d_L_law_831 h0 (pm_ixN (by omega) (by omega)) ?_
  refine r_aload_0 d_L_law_832 ?_
  refine r_iload_3 d_L_law_833 ?_
  refine r_push (v := nI 2) d_L_law_834 ?_
  refine r_iadd d_L_law_835 ?_
  rw [nI_add]
  refine r_sld d_L_law_836 h0 (pm_ixN (by omega) (by omega)) ?_
  refine r_aload_0 d_L_law_837 ?_
  refine r_iload_3 d_L_law_838 ?_
  refine r_push (v := nI 3) d_L_law_839 ?_
  refine r_iadd d_L_law_840 ?_
  rw [nI_add]
  refine r_sld d_L_law_841 h0 (pm_ixN (by omega) (by omega)) ?_
  refine law_X (b' := (c1, c2)) (j_act hJJ) hJJ d_L_law_842 rfl rfl (Nat.le_of_ble_eq_true rfl) (Nat.add_le_add_left (by decide) _) (Nat.add_le_add_left (by decide) _) ?_
  intro x9 h9 Q9 fs9 hs9 h44 hM9 hQ9
  refine r_aload_2 d_L_law_845 ?_
  refine r_aload_0 d_L_law_846 ?_
  refine r_iload_3 d_L_law_847 ?_
  refine r_push (v := nI 1) d_L_law_848 ?_
  refine r_iadd d_L_law_849 ?_
  rw [nI_add]
  refine r_sld d_L_law_850 hs9 (pm_ixN (by omega) (by omega)) ?_
  refine r_aload_0 d_L_law_851 ?_
  refine r_iload_3 d_L_law_852 ?_
  refine r_push (v := nI 2) d_L_law_853 ?_
  refine r_iadd d_L_law_854 ?_
  rw [nI_add]
  refine r_sld d_L_law_855 hs9 (pm_ixN (by omega) (by omega)) ?_
  refine r_aload_0 d_L_law_856 ?_
  refine r_iload_3 d_L_law_857 ?_
  refine r_push (v := nI 3) d_L_law_858 ?_
  refine r_iadd d_L_law_859 ?_
  rw [nI_add]
  refine r_sld d_L_law_860 hs9 (pm_ixN (by omega) (by omega)) ?_
  refine law_M (b' := (c1, c2)) hM9 hQ9 h44 d_L_law_861 rfl rfl (Nat.le_of_ble_eq_true rfl) (Nat.le_refl _) (Nat.le_refl _) ?_
  intro h8 hJ8
  refine r_icmp_eq d_L_law_864 (fun c864 => ?_) (fun c864 => ?_)
  · -- taken at 864
    exact K _ hJ8
  · -- not taken at 864
    exact absurd rfl c864
set_option maxRecDepth 10000 in
set_option maxHeartbeats 4000000 in
theorem lc_15 {N9 i c1 c2 : Nat} {xs : Nat → Int32} {H : pm_H} {F : Option Value → pm_H → Prop} (hN : N9 ≤ 3072) (hi6 : i + 6 ≤ N9) (hJJ : JJ (.inl (.array .int, N9, .inl xs) : pm_C) H) (K : ∀ h2, JJ (.inl (.array .int, N9, .inl xs) : pm_C) h2 → pm_V e_L_law 1529 [some (.ref 0), some (.ref 1), some (.ref 44), some (.int (nI i))] [] h2 (c1, c2) F) : pm_V e_L_law 869 [some (.ref 0), some (.ref 1), some (.ref 44), some (.int (nI i))] [] H (c1 + 1, c2 + 5) F := by
  have h0 := JJ_0 hJJ
  refine r_aload_1 d_L_law_869 ?_
  refine r_aload_0 d_L_law_870 ?_
  refine r_iload_3 d_L_law_871 ?_
  refine r_push (v := nI 1) d_L_law_872 ?_
  refine r_iadd d_L_law_873 ?_
  rw [nI_add]
  refine r_sld d_L_law_874 h0 (pm_ixN (by omega) (by omega)) ?_
  refine r_aload_0 d_L_law_875 ?_
  refine r_iload_3 d_L_law_876 ?_
  refine r_push (v := nI 2) d_L_law_877 ?_
  refine r_iadd d_L_law_878 ?_
  rw [nI_add]
  refine r_sld d_L_law_879 h0 (pm_ixN (by omega) (by omega)) ?_
  refine r_aload_0 d_L_law_880 ?_
  refine r_iload_3 d_L_law_881 ?_
  refine r_push (v := nI 3) d_L_law_882 ?_
  refine r_iadd d_L_law_883 ?_
  rw [nI_add]
  refine r_sld d_L_law_884 h0 (pm_ixN (by omega) (by omega)) ?_
  refine law_X (b' := (c1, c2)) (j_way hJJ) hJJ d_L_law_885 rfl rfl (Nat.le_of_ble_eq_true rfl) (Nat.add_le_add_left (by decide) _) (Nat.add_le_add_left (by decide) _) ?_
  intro x9 h9 Q9 fs9 hs9 h44 hM9 hQ9
  refine r_aload_2 d_L_law_888 ?_
  refine r_aload_0 d_L_law_889 ?_
  refine r_iload_3 d_L_law_890 ?_
  refine r_push (v := nI 1) d_L_law_891 ?_
  refine r_iadd d_L_law_892 ?_
  rw [nI_add]
  refine r_sld d_L_law_893 hs9 (pm_ixN (by omega) (by omega)) ?_
  refine r_aload_0 d_L_law_894 ?_
  refine r_iload_3 d_L_law_895 ?_
  refine r_push (v := nI 2) d_L_law_896 ?_
  refine r_iadd d_L_law_897 ?_
  rw [nI_add]
  refine r_sld d_L_law_898 hs9 (pm_ixN (by omega) (by omega)) ?_
  refine r_aload_0 d_L_law_899 ?_
  refine r_iload_3 d_L_law_900 ?_
  refine r_push (v := nI 3) d_L_law_901 ?_
  refine r_iadd d_L_law_902 ?_
  rw [nI_add]
  refine r_sld d_L_law_903 hs9 (pm_ixN (by omega) (by omega)) ?_
  refine law_M (b' := (c1, c2)) hM9 hQ9 h44 d_L_law_904 rfl rfl (Nat.le_of_ble_eq_true rfl) (Nat.le_refl _) (Nat.le_refl _) ?_
  intro h8 hJ8
  refine r_icmp_eq d_L_law_907 (fun c907 => ?_) (fun c907 => ?_)
  · -- taken at 907
    exact K _ hJ8
  · -- not taken at 907
    exact absurd rfl c907
set_option maxRecDepth 10000 in
set_option maxHeartbeats 4000000 in
theorem lc_16 {N9 i c1 c2 : Nat} {xs : Nat → Int32} {H : pm_H} {F : Option Value → pm_H → Prop} (hN : N9 ≤ 3072) (hi6 : i + 6 ≤ N9) (hJJ : JJ (.inl (.array .int, N9, .inl xs) : pm_C) H) (K : ∀ h2, JJ (.inl (.array .int, N9, .inl xs) : pm_C) h2 → pm_V e_L_law 1529 [some (.ref 0), some (.ref 1), some (.ref 44), some (.int (nI i))] [] h2 (c1, c2) F) : pm_V e_L_law 912 [some (.ref 0), some (.ref 1), some (.ref 44), some (.int (nI i))] [] H (c1 + 1, c2 + 5) F := by
  have h0 := JJ_0 hJJ
  refine r_aload_1 d_L_law_912 ?_
  refine r_aload_0 d_L_law_913 ?_
  refine r_iload_3 d_L_law_914 ?_
  refine r_push (v := nI 1) d_L_law_915 ?_
  refine r_iadd d_L_law_916 ?_
  rw [nI_add]
  refine r_sld d_L_law_917 h0 (pm_ixN (by omega) (by omega)) ?_
  refine law_X (b' := (c1, c2)) (j_step hJJ) hJJ d_L_law_918 rfl rfl (Nat.le_of_ble_eq_true rfl) (Nat.add_le_add_left (by decide) _) (Nat.add_le_add_left (by decide) _) ?_
  intro x9 h9 Q9 fs9 hs9 h44 hM9 hQ9
  refine r_aload_2 d_L_law_921 ?_
  refine r_aload_0 d_L_law_922 ?_
  refine r_iload_3 d_L_law_923 ?_
  refine r_push (v := nI 1) d_L_law_924 ?_
  refine r_iadd d_L_law_925 ?_
  rw [nI_add]
  refine r_sld d_L_law_926 hs9 (pm_ixN (by omega) (by omega)) ?_
  refine law_M (b' := (c1, c2)) hM9 hQ9 h44 d_L_law_927 rfl rfl (Nat.le_of_ble_eq_true rfl) (Nat.le_refl _) (Nat.le_refl _) ?_
  intro h8 hJ8
  refine r_icmp_eq d_L_law_930 (fun c930 => ?_) (fun c930 => ?_)
  · -- taken at 930
    exact K _ hJ8
  · -- not taken at 930
    exact absurd rfl c930
set_option maxRecDepth 10000 in
set_option maxHeartbeats 4000000 in
theorem lc_17 {N9 i c1 c2 : Nat} {xs : Nat → Int32} {H : pm_H} {F : Option Value → pm_H → Prop} (hN : N9 ≤ 3072) (hi6 : i + 6 ≤ N9) (hJJ : JJ (.inl (.array .int, N9, .inl xs) : pm_C) H) (K : ∀ h2, JJ (.inl (.array .int, N9, .inl xs) : pm_C) h2 → pm_V e_L_law 1529 [some (.ref 0), some (.ref 1), some (.ref 44), some (.int (nI i))] [] h2 (c1, c2) F) : pm_V e_L_law 935 [some (.ref 0), some (.ref 1), some (.ref 44), some (.int (nI i))] [] H (c1 + 1, c2 + 5) F := by
  have h0 := JJ_0 hJJ
  refine r_aload_1 d_L_law_935 ?_
  refine r_aload_0 d_L_law_936 ?_
  refine r_iload_3 d_L_law_937 ?_
  refine r_push (v := nI 1) d_L_law_938 ?_
  refine r_iadd d_L_law_939 ?_
  rw [nI_add]
  refine r_sld d_L_law_940 h0 (pm_ixN (by omega) (by omega)) ?_
  refine r_aload_0 d_L_law_941 ?_
  refine r_iload_3 d_L_law_942 ?_
  refine r_push (v := nI 2) d_L_law_943 ?_
  refine r_iadd d_L_law_944 ?_
  rw [nI_add]
  refine r_sld d_L_law_945 h0 (pm_ixN (by omega) (by omega)) ?_
  refine law_X (b' := (c1, c2)) (j_row hJJ) hJJ d_L_law_946 rfl rfl (Nat.le_of_ble_eq_true rfl) (Nat.add_le_add_left (by decide) _) (Nat.add_le_add_left (by decide) _) ?_
  intro x9 h9 Q9 fs9 hs9 h44 hM9 hQ9
  refine r_aload_2 d_L_law_949 ?_
  refine r_aload_0 d_L_law_950 ?_
  refine r_iload_3 d_L_law_951 ?_
  refine r_push (v := nI 1) d_L_law_952 ?_
  refine r_iadd d_L_law_953 ?_
  rw [nI_add]
  refine r_sld d_L_law_954 hs9 (pm_ixN (by omega) (by omega)) ?_
  refine r_aload_0 d_L_law_955 ?_
  refine r_iload_3 d_L_law_956 ?_
  refine r_push (v := nI 2) d_L_law_957 ?_
  refine r_iadd d_L_law_958 ?_
  rw [nI_add]
  refine r_sld d_L_law_959 hs9 (pm_ixN (by omega) (by omega)) ?_
  refine law_M (b' := (c1, c2)) hM9 hQ9 h44 d_L_law_960 rfl rfl (Nat.le_of_ble_eq_true rfl) (Nat.le_refl _) (Nat.le_refl _) ?_
  intro h8 hJ8
  refine r_icmp_eq d_L_law_963 (fun c963 => ?_) (fun c963 => ?_)
  · -- taken at 963
    exact K _ hJ8
  · -- not taken at 963
    exact absurd rfl c963
set_option maxRecDepth 10000 in
set_option maxHeartbeats 4000000 in
theorem lc_18 {N9 i c1 c2 : Nat} {xs : Nat → Int32} {H : pm_H} {F : Option Value → pm_H → Prop} (hN : N9 ≤ 3072) (hi6 : i + 6 ≤ N9) (hJJ : JJ (.inl (.array .int, N9, .inl xs) : pm_C) H) (K : ∀ h2, JJ (.inl (.array .int, N9, .inl xs) : pm_C) h2 → pm_V e_L_law 1529 [some (.ref 0), some (.ref 1), some (.ref 44), some (.int (nI i))] [] h2 (c1, c2) F) : pm_V e_L_law 968 [some (.ref 0), some (.ref 1), some (.ref 44), some (.int (nI i))] [] H (c1 + 1, c2 + 5) F := by
  have h0 := JJ_0 hJJ
  refine r_aload_1 d_L_law_968 ?_
  refine r_aload_0 d_L_law_969 ?_
  refine r_iload_3 d_L_law_970 ?_
  refine r_push (v := nI 1) d_L_law_971 ?_
  refine r_iadd d_L_law_972 ?_
  rw [nI_add]
  refine r_sld d_L_law_973 h0 (pm_ixN (by omega) (by omega)) ?_
  refine r_aload_0 d_L_law_974 ?_
  refine r_iload_3 d_L_law_975 ?_
  refine r_push (v := nI 2) d_L_law_976 ?_
  refine r_iadd d_L_law_977 ?_
  rw [nI_add]
  refine r_sld d_L_law_978 h0 (pm_ixN (by omega) (by omega)) ?_
  refine r_aload_0 d_L_law_979 ?_
  refine r_iload_3 d_L_law_980 ?_
  refine r_push (v := nI 3) d_L_law_981 ?_
  refine r_iadd d_L_law_982 ?_
  rw [nI_add]
  refine r_sld d_L_law_983 h0 (pm_ixN (by omega) (by omega)) ?_
  refine law_X (b' := (c1, c2)) (j_lay hJJ) hJJ d_L_law_984 rfl rfl (Nat.le_of_ble_eq_true rfl) (Nat.add_le_add_left (by decide) _) (Nat.add_le_add_left (by decide) _) ?_
  intro x9 h9 Q9 fs9 hs9 h44 hM9 hQ9
  refine r_aload_2 d_L_law_987 ?_
  refine r_aload_0 d_L_law_988 ?_
  refine r_iload_3 d_L_law_989 ?_
  refine r_push (v := nI 1) d_L_law_990 ?_
  refine r_iadd d_L_law_991 ?_
  rw [nI_add]
  refine r_sld d_L_law_992 hs9 (pm_ixN (by omega) (by omega)) ?_
  refine r_aload_0 d_L_law_993 ?_
  refine r_iload_3 d_L_law_994 ?_
  refine r_push (v := nI 2) d_L_law_995 ?_
  refine r_iadd d_L_law_996 ?_
  rw [nI_add]
  refine r_sld d_L_law_997 hs9 (pm_ixN (by omega) (by omega)) ?_
  refine r_aload_0 d_L_law_998 ?_
  refine r_iload_3 d_L_law_999 ?_
  refine r_push (v := nI 3) d_L_law_1000 ?_
  refine r_iadd d_L_law_1001 ?_
  rw [nI_add]
  refine r_sld d_L_law_1002 hs9 (pm_ixN (by omega) (by omega)) ?_
  refine law_M (b' := (c1, c2)) hM9 hQ9 h44 d_L_law_1003 rfl rfl (Nat.le_of_ble_eq_true rfl) (Nat.le_refl _) (Nat.le_refl _) ?_
  intro h8 hJ8
  refine r_icmp_eq d_L_law_1006 (fun c1006 => ?_) (fun c1006 => ?_)
  · -- taken at 1006
    exact K _ hJ8
  · -- not taken at 1006
    exact absurd rfl c1006
set_option maxRecDepth 10000 in
set_option maxHeartbeats 4000000 in
theorem lc_19 {N9 i c1 c2 : Nat} {xs : Nat → Int32} {H : pm_H} {F : Option Value → pm_H → Prop} (hN : N9 ≤ 3072) (hi6 : i + 6 ≤ N9) (hJJ : JJ (.inl (.array .int, N9, .inl xs) : pm_C) H) (K : ∀ h2, JJ (.inl (.array .int, N9, .inl xs) : pm_C) h2 → pm_V e_L_law 1529 [some (.ref 0), some (.ref 1), some (.ref 44), some (.int (nI i))] [] h2 (c1, c2) F) : pm_V e_L_law 1011 [some (.ref 0), some (.ref 1), some (.ref 44), some (.int (nI i))] [] H (c1 + 1, c2 + 5) F := by
  have h0 := JJ_0 hJJ
  refine r_aload_1 d_L_law_1011 ?_
  refine r_aload_0 d_L_law_1012 ?_
  refine r_iload_3 d_L_law_1013 ?_
  refine r_push (v := nI 1) d_L_law_1014 ?_
  refine r_iadd d_L_law_1015 ?_
  rw [nI_add]
  refine r_sld d_L_law_1016 h0 (pm_ixN (by omega) (by omega)) ?_
  refine law_X (b' := (c1, c2)) (j_tear hJJ) hJJ d_L_law_1017 rfl rfl (Nat.le_of_ble_eq_true rfl) (Nat.add_le_add_left (by decide) _) (Nat.add_le_add_left (by decide) _) ?_
  intro x9 h9 Q9 fs9 hs9 h44 hM9 hQ9
  refine r_aload_2 d_L_law_1020 ?_
  refine r_aload_0 d_L_law_1021 ?_
  refine r_iload_3 d_L_law_1022 ?_
  refine r_push (v := nI 1) d_L_law_1023 ?_
  refine r_iadd d_L_law_1024 ?_
  rw [nI_add]
  refine r_sld d_L_law_1025 hs9 (pm_ixN (by omega) (by omega)) ?_
  refine law_M (b' := (c1, c2)) hM9 hQ9 h44 d_L_law_1026 rfl rfl (Nat.le_of_ble_eq_true rfl) (Nat.le_refl _) (Nat.le_refl _) ?_
  intro h8 hJ8
  refine r_icmp_eq d_L_law_1029 (fun c1029 => ?_) (fun c1029 => ?_)
  · -- taken at 1029
    exact K _ hJ8
  · -- not taken at 1029
    exact absurd rfl c1029
set_option maxRecDepth 10000 in
set_option maxHeartbeats 4000000 in
theorem lc_20 {N9 i c1 c2 : Nat} {xs : Nat → Int32} {H : pm_H} {F : Option Value → pm_H → Prop} (hN : N9 ≤ 3072) (hi6 : i + 6 ≤ N9) (hJJ : JJ (.inl (.array .int, N9, .inl xs) : pm_C) H) (K : ∀ h2, JJ (.inl (.array .int, N9, .inl xs) : pm_C) h2 → pm_V e_L_law 1529 [some (.ref 0), some (.ref 1), some (.ref 44), some (.int (nI i))] [] h2 (c1, c2) F) : pm_V e_L_law 1034 [some (.ref 0), some (.ref 1), some (.ref 44), some (.int (nI i))] [] H (c1 + 1, c2 + 5) F := by
  have h0 := JJ_0 hJJ
  refine r_aload_1 d_L_law_1034 ?_
  refine r_aload_0 d_L_law_1035 ?_
  refine r_iload_3 d_L_law_1036 ?_
  refine r_push (v := nI 1) d_L_law_1037 ?_
  refine r_iadd d_L_law_1038 ?_
  rw [nI_add]
  refine r_sld d_L_law_1039 h0 (pm_ixN (by omega) (by omega)) ?_
  refine r_aload_0 d_L_law_1040 ?_
  refine r_iload_3 d_L_law_1041 ?_
  refine r_push (v := nI 2) d_L_law_1042 ?_
  refine r_iadd d_L_law_1043 ?_
  rw [nI_add]
  refine r_sld d_L_law_1044 h0 (pm_ixN (by omega) (by omega)) ?_
  refine r_aload_0 d_L_law_1045 ?_
  refine r_iload_3 d_L_law_1046 ?_
  refine r_push (v := nI 3) d_L_law_1047 ?_
  refine r_iadd d_L_law_1048 ?_
  rw [nI_add]
  refine r_sld d_L_law_1049 h0 (pm_ixN (by omega) (by omega)) ?_
  refine r_aload_0 d_L_law_1050 ?_
  refine r_iload_3 d_L_law_1051 ?_
  refine r_push (v := nI 4) d_L_law_1052 ?_
  refine r_iadd d_L_law_1053 ?_
  rw [nI_add]
  refine r_sld d_L_law_1054 h0 (pm_ixN (by omega) (by omega)) ?_
  refine r_aload_0 d_L_law_1055 ?_
  refine r_iload_3 d_L_law_1056 ?_
  refine r_push (v := nI 5) d_L_law_1057 ?_
  refine r_iadd d_L_law_1058 ?_
  rw [nI_add]
  refine r_sld d_L_law_1059 h0 (pm_ixN (by omega) (by omega)) ?_
  refine law_X (b' := (c1, c2)) (j_copy hJJ) hJJ d_L_law_1060 rfl rfl (Nat.le_of_ble_eq_true rfl) (Nat.add_le_add_left (by decide) _) (Nat.add_le_add_left (by decide) _) ?_
  intro x9 h9 Q9 fs9 hs9 h44 hM9 hQ9
  refine r_aload_2 d_L_law_1063 ?_
  refine r_aload_0 d_L_law_1064 ?_
  refine r_iload_3 d_L_law_1065 ?_
  refine r_push (v := nI 1) d_L_law_1066 ?_
  refine r_iadd d_L_law_1067 ?_
  rw [nI_add]
  refine r_sld d_L_law_1068 hs9 (pm_ixN (by omega) (by omega)) ?_
  refine r_aload_0 d_L_law_1069 ?_
  refine r_iload_3 d_L_law_1070 ?_
  refine r_push (v := nI 2) d_L_law_1071 ?_
  refine r_iadd d_L_law_1072 ?_
  rw [nI_add]
  refine r_sld d_L_law_1073 hs9 (pm_ixN (by omega) (by omega)) ?_
  refine r_aload_0 d_L_law_1074 ?_
  refine r_iload_3 d_L_law_1075 ?_
  refine r_push (v := nI 3) d_L_law_1076 ?_
  refine r_iadd d_L_law_1077 ?_
  rw [nI_add]
  refine r_sld d_L_law_1078 hs9 (pm_ixN (by omega) (by omega)) ?_
  refine r_aload_0 d_L_law_1079 ?_
  refine r_iload_3 d_L_law_1080 ?_
  refine r_push (v := nI 4) d_L_law_1081 ?_
  refine r_iadd d_L_law_1082 ?_
  rw [nI_add]
  refine r_sld d_L_law_1083 hs9 (pm_ixN (by omega) (by omega)) ?_
  refine r_aload_0 d_L_law_1084 ?_
  refine r_iload_3 d_L_law_1085 ?_
  refine r_push (v := nI 5) d_L_law_1086 ?_
  refine r_iadd d_L_law_1087 ?_
  rw [nI_add]
  refine r_sld d_L_law_1088 hs9 (pm_ixN (by omega) (by omega)) ?_
  refine law_M (b' := (c1, c2)) hM9 hQ9 h44 d_L_law_1089 rfl rfl (Nat.le_of_ble_eq_true rfl) (Nat.le_refl _) (Nat.le_refl _) ?_
  intro h8 hJ8
  refine r_icmp_eq d_L_law_1092 (fun c1092 => ?_) (fun c1092 => ?_)
  · -- taken at 1092
    exact K _ hJ8
  · -- not taken at 1092
    exact absurd rfl c1092
set_option maxRecDepth 10000 in
set_option maxHeartbeats 4000000 in
theorem lc_21 {N9 i c1 c2 : Nat} {xs : Nat → Int32} {H : pm_H} {F : Option Value → pm_H → Prop} (hN : N9 ≤ 3072) (hi6 : i + 6 ≤ N9) (hJJ : JJ (.inl (.array .int, N9, .inl xs) : pm_C) H) (K : ∀ h2, JJ (.inl (.array .int, N9, .inl xs) : pm_C) h2 → pm_V e_L_law 1529 [some (.ref 0), some (.ref 1), some (.ref 44), some (.int (nI i))] [] h2 (c1, c2) F) : pm_V e_L_law 1097 [some (.ref 0), some (.ref 1), some (.ref 44), some (.int (nI i))] [] H (c1 + 1, c2 + 5) F := by
  have h0 := JJ_0 hJJ
  refine r_aload_1 d_L_law_1097 ?_
  refine r_aload_0 d_L_law_1098 ?_
  refine r_iload_3 d_L_law_1099 ?_
  refine r_push (v := nI 1) d_L_law_1100 ?_
  refine r_iadd d_L_law_1101 ?_
  rw [nI_add]
  refine r_sld d_L_law_1102 h0 (pm_ixN (by omega) (by omega)) ?_
  refine r_aload_0 d_L_law_1103 ?_
  refine r_iload_3 d_L_law_1104 ?_
  refine r_push (v := nI 2) d_L_law_1105 ?_
  refine r_iadd d_L_law_1106 ?_
  rw [nI_add]
  refine r_sld d_L_law_1107 h0 (pm_ixN (by omega) (by omega)) ?_
  refine law_X (b' := (c1, c2)) (j_misfits hJJ) hJJ d_L_law_1108 rfl rfl (Nat.le_of_ble_eq_true rfl) (Nat.add_le_add_left (by decide) _) (Nat.add_le_add_left (by decide) _) ?_
  intro x9 h9 Q9 fs9 hs9 h44 hM9 hQ9
  refine r_aload_2 d_L_law_1111 ?_
  refine r_aload_0 d_L_law_1112 ?_
  refine r_iload_3 d_L_law_1113 ?_
  refine r_push (v := nI 1) d_L_law_1114 ?_
  refine r_iadd d_L_law_1115 ?_
  rw [nI_add]
  refine r_sld d_L_law_1116 hs9 (pm_ixN (by omega) (by omega)) ?_
  refine r_aload_0 d_L_law_1117 ?_
  refine r_iload_3 d_L_law_1118 ?_
  refine r_push (v := nI 2) d_L_law_1119 ?_
  refine r_iadd d_L_law_1120 ?_
  rw [nI_add]
  refine r_sld d_L_law_1121 hs9 (pm_ixN (by omega) (by omega)) ?_
  refine law_M (b' := (c1, c2)) hM9 hQ9 h44 d_L_law_1122 rfl rfl (Nat.le_of_ble_eq_true rfl) (Nat.le_refl _) (Nat.le_refl _) ?_
  intro h8 hJ8
  refine r_icmp_eq d_L_law_1125 (fun c1125 => ?_) (fun c1125 => ?_)
  · -- taken at 1125
    exact K _ hJ8
  · -- not taken at 1125
    exact absurd rfl c1125
set_option maxRecDepth 10000 in
set_option maxHeartbeats 4000000 in
theorem lc_22 {N9 i c1 c2 : Nat} {xs : Nat → Int32} {H : pm_H} {F : Option Value → pm_H → Prop} (hN : N9 ≤ 3072) (hi6 : i + 6 ≤ N9) (hJJ : JJ (.inl (.array .int, N9, .inl xs) : pm_C) H) (K : ∀ h2, JJ (.inl (.array .int, N9, .inl xs) : pm_C) h2 → pm_V e_L_law 1529 [some (.ref 0), some (.ref 1), some (.ref 44), some (.int (nI i))] [] h2 (c1, c2) F) : pm_V e_L_law 1130 [some (.ref 0), some (.ref 1), some (.ref 44), some (.int (nI i))] [] H (c1 + 1, c2 + 5) F := by
  have h0 := JJ_0 hJJ
  refine r_aload_1 d_L_law_1130 ?_
  refine r_aload_0 d_L_law_1131 ?_
  refine r_iload_3 d_L_law_1132 ?_
  refine r_push (v := nI 1) d_L_law_1133 ?_
  refine r_iadd d_L_law_1134 ?_
  rw [nI_add]
  refine r_sld d_L_law_1135 h0 (pm_ixN (by omega) (by omega)) ?_
  refine law_X (b' := (c1, c2)) (j_follows hJJ) hJJ d_L_law_1136 rfl rfl (Nat.le_of_ble_eq_true rfl) (Nat.add_le_add_left (by decide) _) (Nat.add_le_add_left (by decide) _) ?_
  intro x9 h9 Q9 fs9 hs9 h44 hM9 hQ9
  refine r_aload_2 d_L_law_1139 ?_
  refine r_aload_0 d_L_law_1140 ?_
  refine r_iload_3 d_L_law_1141 ?_
  refine r_push (v := nI 1) d_L_law_1142 ?_
  refine r_iadd d_L_law_1143 ?_
  rw [nI_add]
  refine r_sld d_L_law_1144 hs9 (pm_ixN (by omega) (by omega)) ?_
  refine law_M (b' := (c1, c2)) hM9 hQ9 h44 d_L_law_1145 rfl rfl (Nat.le_of_ble_eq_true rfl) (Nat.le_refl _) (Nat.le_refl _) ?_
  intro h8 hJ8
  refine r_icmp_eq d_L_law_1148 (fun c1148 => ?_) (fun c1148 => ?_)
  · -- taken at 1148
    exact K _ hJ8
  · -- not taken at 1148
    exact absurd rfl c1148
set_option maxRecDepth 10000 in
set_option maxHeartbeats 4000000 in
theorem lc_23 {N9 i c1 c2 : Nat} {xs : Nat → Int32} {H : pm_H} {F : Option Value → pm_H → Prop} (hN : N9 ≤ 3072) (hi6 : i + 6 ≤ N9) (hJJ : JJ (.inl (.array .int, N9, .inl xs) : pm_C) H) (K : ∀ h2, JJ (.inl (.array .int, N9, .inl xs) : pm_C) h2 → pm_V e_L_law 1529 [some (.ref 0), some (.ref 1), some (.ref 44), some (.int (nI i))] [] h2 (c1, c2) F) : pm_V e_L_law 1153 [some (.ref 0), some (.ref 1), some (.ref 44), some (.int (nI i))] [] H (c1 + 1, c2 + 5) F := by
  have h0 := JJ_0 hJJ
  refine r_aload_1 d_L_law_1153 ?_
  refine r_aload_0 d_L_law_1154 ?_
  refine r_iload_3 d_L_law_1155 ?_
  refine r_push (v := nI 1) d_L_law_1156 ?_
  refine r_iadd d_L_law_1157 ?_
  rw [nI_add]
  refine r_sld d_L_law_1158 h0 (pm_ixN (by omega) (by omega)) ?_
  refine law_X (b' := (c1, c2)) (j_lacks hJJ) hJJ d_L_law_1159 rfl rfl (Nat.le_of_ble_eq_true rfl) (Nat.add_le_add_left (by decide) _) (Nat.add_le_add_left (by decide) _) ?_
  intro x9 h9 Q9 fs9 hs9 h44 hM9 hQ9
  refine r_aload_2 d_L_law_1162 ?_
  refine r_aload_0 d_L_law_1163 ?_
  refine r_iload_3 d_L_law_1164 ?_
  refine r_push (v := nI 1) d_L_law_1165 ?_
  refine r_iadd d_L_law_1166 ?_
  rw [nI_add]
  refine r_sld d_L_law_1167 hs9 (pm_ixN (by omega) (by omega)) ?_
  refine law_M (b' := (c1, c2)) hM9 hQ9 h44 d_L_law_1168 rfl rfl (Nat.le_of_ble_eq_true rfl) (Nat.le_refl _) (Nat.le_refl _) ?_
  intro h8 hJ8
  refine r_icmp_eq d_L_law_1171 (fun c1171 => ?_) (fun c1171 => ?_)
  · -- taken at 1171
    exact K _ hJ8
  · -- not taken at 1171
    exact absurd rfl c1171
set_option maxRecDepth 10000 in
set_option maxHeartbeats 4000000 in
theorem lc_24 {N9 i c1 c2 : Nat} {xs : Nat → Int32} {H : pm_H} {F : Option Value → pm_H → Prop} (hN : N9 ≤ 3072) (hi6 : i + 6 ≤ N9) (hJJ : JJ (.inl (.array .int, N9, .inl xs) : pm_C) H) (K : ∀ h2, JJ (.inl (.array .int, N9, .inl xs) : pm_C) h2 → pm_V e_L_law 1529 [some (.ref 0), some (.ref 1), some (.ref 44), some (.int (nI i))] [] h2 (c1, c2) F) : pm_V e_L_law 1176 [some (.ref 0), some (.ref 1), some (.ref 44), some (.int (nI i))] [] H (c1 + 1, c2 + 5) F := by
  have h0 := JJ_0 hJJ
  refine r_aload_1 d_L_law_1176 ?_
  refine r_aload_0 d_L_law_1177 ?_
  refine r_iload_3 d_L_law_1178 ?_
  refine r_push (v := nI 1) d_L_law_1179 ?_
  refine r_iadd d_L_law_1180 ?_
  rw [nI_add]
  refine r_sld d_L_law_1181 h0 (pm_ixN (by omega) (by omega)) ?_
  refine r_aload_0 d_L_law_1182 ?_
  refine r_iload_3 d_L_law_1183 ?_
  refine r_push (v := nI 2) d_L_law_1184 ?_
  refine r_iadd d_L_law_1185 ?_
  rw [nI_add]
  refine r_sld d_L_law_1186 h0 (pm_ixN (by omega) (by omega)) ?_
  refine law_X (b' := (c1, c2)) (j_swapped hJJ) hJJ d_L_law_1187 rfl rfl (Nat.le_of_ble_eq_true rfl) (Nat.add_le_add_left (by decide) _) (Nat.add_le_add_left (by decide) _) ?_
  intro x9 h9 Q9 fs9 hs9 h44 hM9 hQ9
  refine r_aload_2 d_L_law_1190 ?_
  refine r_aload_0 d_L_law_1191 ?_
  refine r_iload_3 d_L_law_1192 ?_
  refine r_push (v := nI 1) d_L_law_1193 ?_
  refine r_iadd d_L_law_1194 ?_
  rw [nI_add]
  refine r_sld d_L_law_1195 hs9 (pm_ixN (by omega) (by omega)) ?_
  refine r_aload_0 d_L_law_1196 ?_
  refine r_iload_3 d_L_law_1197 ?_
  refine r_push (v := nI 2) d_L_law_1198 ?_
  refine r_iadd d_L_law_1199 ?_
  rw [nI_add]
  refine r_sld d_L_law_1200 hs9 (pm_ixN (by omega) (by omega)) ?_
  refine law_M (b' := (c1, c2)) hM9 hQ9 h44 d_L_law_1201 rfl rfl (Nat.le_of_ble_eq_true rfl) (Nat.le_refl _) (Nat.le_refl _) ?_
  intro h8 hJ8
  refine r_icmp_eq d_L_law_1204 (fun c1204 => ?_) (fun c1204 => ?_)
  · -- taken at 1204
    exact K _ hJ8
  · -- not taken at 1204
    exact absurd rfl c1204
set_option maxRecDepth 10000 in
set_option maxHeartbeats 4000000 in
theorem lc_25 {N9 i c1 c2 : Nat} {xs : Nat → Int32} {H : pm_H} {F : Option Value → pm_H → Prop} (hN : N9 ≤ 3072) (hi6 : i + 6 ≤ N9) (hJJ : JJ (.inl (.array .int, N9, .inl xs) : pm_C) H) (K : ∀ h2, JJ (.inl (.array .int, N9, .inl xs) : pm_C) h2 → pm_V e_L_law 1529 [some (.ref 0), some (.ref 1), some (.ref 44), some (.int (nI i))] [] h2 (c1, c2) F) : pm_V e_L_law 1209 [some (.ref 0), some (.ref 1), some (.ref 44), some (.int (nI i))] [] H (c1 + 1, c2 + 5) F := by
  have h0 := JJ_0 hJJ
  refine r_aload_1 d_L_law_1209 ?_
  refine r_aload_0 d_L_law_1210 ?_
  refine r_iload_3 d_L_law_1211 ?_
  refine r_push (v := nI 1) d_L_law_1212 ?_
  refine r_iadd d_L_law_1213 ?_
  rw [nI_add]
  refine r_sld d_L_law_1214 h0 (pm_ixN (by omega) (by omega)) ?_
  refine r_aload_0 d_L_law_1215 ?_
  refine r_iload_3 d_L_law_1216 ?_
  refine r_push (v := nI 2) d_L_law_1217 ?_
  refine r_iadd d_L_law_1218 ?_
  rw [nI_add]
  refine r_sld d_L_law_1219 h0 (pm_ixN (by omega) (by omega)) ?_
  refine r_aload_0 d_L_law_1220 ?_
  refine r_iload_3 d_L_law_1221 ?_
  refine r_push (v := nI 3) d_L_law_1222 ?_
  refine r_iadd d_L_law_1223 ?_
  rw [nI_add]
  refine r_sld d_L_law_1224 h0 (pm_ixN (by omega) (by omega)) ?_
  refine r_i2l d_L_law_1225 ?_
  refine r_push (v := nI 32) d_L_law_1226 ?_
  refine r_lshl d_L_law_1228 ?_
  refine r_aload_0 d_L_law_1229 ?_
  refine r_iload_3 d_L_law_1230 ?_
  refine r_push (v := nI 4) d_L_law_1231 ?_
  refine r_iadd d_L_law_1232 ?_
  rw [nI_add]
  refine r_sld d_L_law_1233 h0 (pm_ixN (by omega) (by omega)) ?_
  refine r_i2l d_L_law_1234 ?_
  refine r_pushl (v := lN 4294967295) d_L_law_1235 ?_
  refine r_land d_L_law_1238 ?_
  refine r_lor d_L_law_1239 ?_
  refine r_aload_0 d_L_law_1240 ?_
  refine r_iload_3 d_L_law_1241 ?_
  refine r_push (v := nI 5) d_L_law_1242 ?_
  refine r_iadd d_L_law_1243 ?_
  rw [nI_add]
  refine r_sld d_L_law_1244 h0 (pm_ixN (by omega) (by omega)) ?_
  refine law_X (b' := (c1, c2)) (j_record hJJ) hJJ d_L_law_1245 rfl rfl (Nat.le_of_ble_eq_true rfl) (Nat.add_le_add_left (by decide) _) (Nat.add_le_add_left (by decide) _) ?_
  intro x9 h9 Q9 fs9 hs9 h44 hM9 hQ9
  refine r_aload_2 d_L_law_1248 ?_
  refine r_aload_0 d_L_law_1249 ?_
  refine r_iload_3 d_L_law_1250 ?_
  refine r_push (v := nI 1) d_L_law_1251 ?_
  refine r_iadd d_L_law_1252 ?_
  rw [nI_add]
  refine r_sld d_L_law_1253 hs9 (pm_ixN (by omega) (by omega)) ?_
  refine r_aload_0 d_L_law_1254 ?_
  refine r_iload_3 d_L_law_1255 ?_
  refine r_push (v := nI 2) d_L_law_1256 ?_
  refine r_iadd d_L_law_1257 ?_
  rw [nI_add]
  refine r_sld d_L_law_1258 hs9 (pm_ixN (by omega) (by omega)) ?_
  refine r_aload_0 d_L_law_1259 ?_
  refine r_iload_3 d_L_law_1260 ?_
  refine r_push (v := nI 3) d_L_law_1261 ?_
  refine r_iadd d_L_law_1262 ?_
  rw [nI_add]
  refine r_sld d_L_law_1263 hs9 (pm_ixN (by omega) (by omega)) ?_
  refine r_i2l d_L_law_1264 ?_
  refine r_push (v := nI 32) d_L_law_1265 ?_
  refine r_lshl d_L_law_1267 ?_
  refine r_aload_0 d_L_law_1268 ?_
  refine r_iload_3 d_L_law_1269 ?_
  refine r_push (v := nI 4) d_L_law_1270 ?_
  refine r_iadd d_L_law_1271 ?_
  rw [nI_add]
  refine r_sld d_L_law_1272 hs9 (pm_ixN (by omega) (by omega)) ?_
  refine r_i2l d_L_law_1273 ?_
  refine r_pushl (v := lN 4294967295) d_L_law_1274 ?_
  refine r_land d_L_law_1277 ?_
  refine r_lor d_L_law_1278 ?_
  refine r_aload_0 d_L_law_1279 ?_
  refine r_iload_3 d_L_law_1280 ?_
  refine r_push (v := nI 5) d_L_law_1281 ?_
  refine r_iadd d_L_law_1282 ?_
  rw [nI_add]
  refine r_sld d_L_law_1283 hs9 (pm_ixN (by omega) (by omega)) ?_
  refine law_M (b' := (c1, c2)) hM9 hQ9 h44 d_L_law_1284 rfl rfl (Nat.le_of_ble_eq_true rfl) (Nat.le_refl _) (Nat.le_refl _) ?_
  intro h8 hJ8
  refine r_icmp_eq d_L_law_1287 (fun c1287 => ?_) (fun c1287 => ?_)
  · -- taken at 1287
    exact K _ hJ8
  · -- not taken at 1287
    exact absurd rfl c1287
set_option maxRecDepth 10000 in
set_option maxHeartbeats 4000000 in
theorem lc_26 {N9 i c1 c2 : Nat} {xs : Nat → Int32} {H : pm_H} {F : Option Value → pm_H → Prop} (hN : N9 ≤ 3072) (hi6 : i + 6 ≤ N9) (hJJ : JJ (.inl (.array .int, N9, .inl xs) : pm_C) H) (K : ∀ h2, JJ (.inl (.array .int, N9, .inl xs) : pm_C) h2 → pm_V e_L_law 1529 [some (.ref 0), some (.ref 1), some (.ref 44), some (.int (nI i))] [] h2 (c1, c2) F) : pm_V e_L_law 1292 [some (.ref 0), some (.ref 1), some (.ref 44), some (.int (nI i))] [] H (c1 + 1, c2 + 5) F := by
  have h0 := JJ_0 hJJ
  refine r_aload_1 d_L_law_1292 ?_
  refine r_aload_0 d_L_law_1293 ?_
  refine r_iload_3 d_L_law_1294 ?_
  refine r_push (v := nI 1) d_L_law_1295 ?_
  refine r_iadd d_L_law_1296 ?_
  rw [nI_add]
  refine r_sld d_L_law_1297 h0 (pm_ixN (by omega) (by omega)) ?_
  refine r_aload_0 d_L_law_1298 ?_
  refine r_iload_3 d_L_law_1299 ?_
  refine r_push (v := nI 2) d_L_law_1300 ?_
  refine r_iadd d_L_law_1301 ?_
  rw [nI_add]
  refine r_sld d_L_law_1302 h0 (pm_ixN (by omega) (by omega)) ?_
  refine law_X (b' := (c1, c2)) (j_off hJJ) hJJ d_L_law_1303 rfl rfl (Nat.le_of_ble_eq_true rfl) (Nat.add_le_add_left (by decide) _) (Nat.add_le_add_left (by decide) _) ?_
  intro x9 h9 Q9 fs9 hs9 h44 hM9 hQ9
  refine r_aload_2 d_L_law_1306 ?_
  refine r_aload_0 d_L_law_1307 ?_
  refine r_iload_3 d_L_law_1308 ?_
  refine r_push (v := nI 1) d_L_law_1309 ?_
  refine r_iadd d_L_law_1310 ?_
  rw [nI_add]
  refine r_sld d_L_law_1311 hs9 (pm_ixN (by omega) (by omega)) ?_
  refine r_aload_0 d_L_law_1312 ?_
  refine r_iload_3 d_L_law_1313 ?_
  refine r_push (v := nI 2) d_L_law_1314 ?_
  refine r_iadd d_L_law_1315 ?_
  rw [nI_add]
  refine r_sld d_L_law_1316 hs9 (pm_ixN (by omega) (by omega)) ?_
  refine law_M (b' := (c1, c2)) hM9 hQ9 h44 d_L_law_1317 rfl rfl (Nat.le_of_ble_eq_true rfl) (Nat.le_refl _) (Nat.le_refl _) ?_
  intro h8 hJ8
  refine r_icmp_eq d_L_law_1320 (fun c1320 => ?_) (fun c1320 => ?_)
  · -- taken at 1320
    exact K _ hJ8
  · -- not taken at 1320
    exact absurd rfl c1320
set_option maxRecDepth 10000 in
set_option maxHeartbeats 4000000 in
theorem lc_27 {N9 i c1 c2 : Nat} {xs : Nat → Int32} {H : pm_H} {F : Option Value → pm_H → Prop} (hN : N9 ≤ 3072) (hi6 : i + 6 ≤ N9) (hJJ : JJ (.inl (.array .int, N9, .inl xs) : pm_C) H) (K : ∀ h2, JJ (.inl (.array .int, N9, .inl xs) : pm_C) h2 → pm_V e_L_law 1529 [some (.ref 0), some (.ref 1), some (.ref 44), some (.int (nI i))] [] h2 (c1, c2) F) : pm_V e_L_law 1325 [some (.ref 0), some (.ref 1), some (.ref 44), some (.int (nI i))] [] H (c1 + 1, c2 + 5) F := by
  have h0 := JJ_0 hJJ
  refine r_aload_1 d_L_law_1325 ?_
  refine r_aload_0 d_L_law_1326 ?_
  refine r_iload_3 d_L_law_1327 ?_
  refine r_push (v := nI 1) d_L_law_1328 ?_
  refine r_iadd d_L_law_1329 ?_
  rw [nI_add]
  refine r_sld d_L_law_1330 h0 (pm_ixN (by omega) (by omega)) ?_
  refine law_X (b' := (c1, c2)) (j_nearest hJJ) hJJ d_L_law_1331 rfl rfl (Nat.le_of_ble_eq_true rfl) (Nat.add_le_add_left (by decide) _) (Nat.add_le_add_left (by decide) _) ?_
  intro x9 h9 Q9 fs9 hs9 h44 hM9 hQ9
  refine r_aload_2 d_L_law_1334 ?_
  refine r_aload_0 d_L_law_1335 ?_
  refine r_iload_3 d_L_law_1336 ?_
  refine r_push (v := nI 1) d_L_law_1337 ?_
  refine r_iadd d_L_law_1338 ?_
  rw [nI_add]
  refine r_sld d_L_law_1339 hs9 (pm_ixN (by omega) (by omega)) ?_
  refine law_M (b' := (c1, c2)) hM9 hQ9 h44 d_L_law_1340 rfl rfl (Nat.le_of_ble_eq_true rfl) (Nat.le_refl _) (Nat.le_refl _) ?_
  intro h8 hJ8
  refine r_icmp_eq d_L_law_1343 (fun c1343 => ?_) (fun c1343 => ?_)
  · -- taken at 1343
    exact K _ hJ8
  · -- not taken at 1343
    exact absurd rfl c1343
set_option maxRecDepth 10000 in
set_option maxHeartbeats 4000000 in
theorem lc_28 {N9 i c1 c2 : Nat} {xs : Nat → Int32} {H : pm_H} {F : Option Value → pm_H → Prop} (hN : N9 ≤ 3072) (hi6 : i + 6 ≤ N9) (hJJ : JJ (.inl (.array .int, N9, .inl xs) : pm_C) H) (K : ∀ h2, JJ (.inl (.array .int, N9, .inl xs) : pm_C) h2 → pm_V e_L_law 1529 [some (.ref 0), some (.ref 1), some (.ref 44), some (.int (nI i))] [] h2 (c1, c2) F) : pm_V e_L_law 1348 [some (.ref 0), some (.ref 1), some (.ref 44), some (.int (nI i))] [] H (c1 + 1, c2 + 5) F := by
  have h0 := JJ_0 hJJ
  refine r_aload_1 d_L_law_1348 ?_
  refine r_aload_0 d_L_law_1349 ?_
  refine r_iload_3 d_L_law_1350 ?_
  refine r_push (v := nI 1) d_L_law_1351 ?_
  refine r_iadd d_L_law_1352 ?_
  rw [nI_add]
  refine r_sld d_L_law_1353 h0 (pm_ixN (by omega) (by omega)) ?_
  refine r_aload_0 d_L_law_1354 ?_
  refine r_iload_3 d_L_law_1355 ?_
  refine r_push (v := nI 2) d_L_law_1356 ?_
  refine r_iadd d_L_law_1357 ?_
  rw [nI_add]
  refine r_sld d_L_law_1358 h0 (pm_ixN (by omega) (by omega)) ?_
  refine law_X (b' := (c1, c2)) (j_lost hJJ) hJJ d_L_law_1359 rfl rfl (Nat.le_of_ble_eq_true rfl) (Nat.add_le_add_left (by decide) _) (Nat.add_le_add_left (by decide) _) ?_
  intro x9 h9 Q9 fs9 hs9 h44 hM9 hQ9
  refine r_aload_2 d_L_law_1362 ?_
  refine r_aload_0 d_L_law_1363 ?_
  refine r_iload_3 d_L_law_1364 ?_
  refine r_push (v := nI 1) d_L_law_1365 ?_
  refine r_iadd d_L_law_1366 ?_
  rw [nI_add]
  refine r_sld d_L_law_1367 hs9 (pm_ixN (by omega) (by omega)) ?_
  refine r_aload_0 d_L_law_1368 ?_
  refine r_iload_3 d_L_law_1369 ?_
  refine r_push (v := nI 2) d_L_law_1370 ?_
  refine r_iadd d_L_law_1371 ?_
  rw [nI_add]
  refine r_sld d_L_law_1372 hs9 (pm_ixN (by omega) (by omega)) ?_
  refine law_M (b' := (c1, c2)) hM9 hQ9 h44 d_L_law_1373 rfl rfl (Nat.le_of_ble_eq_true rfl) (Nat.le_refl _) (Nat.le_refl _) ?_
  intro h8 hJ8
  refine r_icmp_eq d_L_law_1376 (fun c1376 => ?_) (fun c1376 => ?_)
  · -- taken at 1376
    exact K _ hJ8
  · -- not taken at 1376
    exact absurd rfl c1376
set_option maxRecDepth 10000 in
set_option maxHeartbeats 4000000 in
theorem lc_29 {N9 i c1 c2 : Nat} {xs : Nat → Int32} {H : pm_H} {F : Option Value → pm_H → Prop} (hN : N9 ≤ 3072) (hi6 : i + 6 ≤ N9) (hJJ : JJ (.inl (.array .int, N9, .inl xs) : pm_C) H) (K : ∀ h2, JJ (.inl (.array .int, N9, .inl xs) : pm_C) h2 → pm_V e_L_law 1529 [some (.ref 0), some (.ref 1), some (.ref 44), some (.int (nI i))] [] h2 (c1, c2) F) : pm_V e_L_law 1381 [some (.ref 0), some (.ref 1), some (.ref 44), some (.int (nI i))] [] H (c1 + 1, c2 + 5) F := by
  have h0 := JJ_0 hJJ
  refine r_aload_1 d_L_law_1381 ?_
  refine r_aload_0 d_L_law_1382 ?_
  refine r_iload_3 d_L_law_1383 ?_
  refine r_push (v := nI 1) d_L_law_1384 ?_
  refine r_iadd d_L_law_1385 ?_
  rw [nI_add]
  refine r_sld d_L_law_1386 h0 (pm_ixN (by omega) (by omega)) ?_
  refine r_aload_0 d_L_law_1387 ?_
  refine r_iload_3 d_L_law_1388 ?_
  refine r_push (v := nI 2) d_L_law_1389 ?_
  refine r_iadd d_L_law_1390 ?_
  rw [nI_add]
  refine r_sld d_L_law_1391 h0 (pm_ixN (by omega) (by omega)) ?_
  refine law_X (b' := (c1, c2)) (j_need hJJ) hJJ d_L_law_1392 rfl rfl (Nat.le_of_ble_eq_true rfl) (Nat.add_le_add_left (by decide) _) (Nat.add_le_add_left (by decide) _) ?_
  intro x9 h9 Q9 fs9 hs9 h44 hM9 hQ9
  refine r_aload_2 d_L_law_1395 ?_
  refine r_aload_0 d_L_law_1396 ?_
  refine r_iload_3 d_L_law_1397 ?_
  refine r_push (v := nI 1) d_L_law_1398 ?_
  refine r_iadd d_L_law_1399 ?_
  rw [nI_add]
  refine r_sld d_L_law_1400 hs9 (pm_ixN (by omega) (by omega)) ?_
  refine r_aload_0 d_L_law_1401 ?_
  refine r_iload_3 d_L_law_1402 ?_
  refine r_push (v := nI 2) d_L_law_1403 ?_
  refine r_iadd d_L_law_1404 ?_
  rw [nI_add]
  refine r_sld d_L_law_1405 hs9 (pm_ixN (by omega) (by omega)) ?_
  refine law_M (b' := (c1, c2)) hM9 hQ9 h44 d_L_law_1406 rfl rfl (Nat.le_of_ble_eq_true rfl) (Nat.le_refl _) (Nat.le_refl _) ?_
  intro h8 hJ8
  refine r_icmp_eq d_L_law_1409 (fun c1409 => ?_) (fun c1409 => ?_)
  · -- taken at 1409
    exact K _ hJ8
  · -- not taken at 1409
    exact absurd rfl c1409
set_option maxRecDepth 10000 in
set_option maxHeartbeats 4000000 in
theorem lc_30 {N9 i c1 c2 : Nat} {xs : Nat → Int32} {H : pm_H} {F : Option Value → pm_H → Prop} (hN : N9 ≤ 3072) (hi6 : i + 6 ≤ N9) (hJJ : JJ (.inl (.array .int, N9, .inl xs) : pm_C) H) (K : ∀ h2, JJ (.inl (.array .int, N9, .inl xs) : pm_C) h2 → pm_V e_L_law 1529 [some (.ref 0), some (.ref 1), some (.ref 44), some (.int (nI i))] [] h2 (c1, c2) F) : pm_V e_L_law 1414 [some (.ref 0), some (.ref 1), some (.ref 44), some (.int (nI i))] [] H (c1 + 1, c2 + 5) F := by
  have h0 := JJ_0 hJJ
  refine r_aload_1 d_L_law_1414 ?_
  refine law_Xl (b' := (c1, c2)) (j_asked hJJ) hJJ d_L_law_1415 rfl rfl (Nat.le_of_ble_eq_true rfl) (Nat.add_le_add_left (by decide) _) (Nat.add_le_add_left (by decide) _) ?_
  intro x9 h9 Q9 fs9 hs9 h44 hM9 hQ9
  refine r_aload_2 d_L_law_1418 ?_
  refine law_Ml (b' := (c1, c2)) hM9 hQ9 h44 d_L_law_1419 rfl rfl (Nat.le_of_ble_eq_true rfl) (Nat.le_refl _) (Nat.le_refl _) ?_
  intro h8 hJ8
  refine r_lcmp d_L_law_1422 ?_
  refine r_if_eq d_L_law_1423 (fun c1423 => ?_) (fun c1423 => ?_)
  · -- taken at 1423
    exact K _ hJ8
  · -- not taken at 1423
    exact absurd ((lg_cmp_eq x9 x9).mpr rfl) c1423
set_option maxRecDepth 10000 in
set_option maxHeartbeats 4000000 in
theorem lc_31 {N9 i c1 c2 : Nat} {xs : Nat → Int32} {H : pm_H} {F : Option Value → pm_H → Prop} (hN : N9 ≤ 3072) (hi6 : i + 6 ≤ N9) (hJJ : JJ (.inl (.array .int, N9, .inl xs) : pm_C) H) (K : ∀ h2, JJ (.inl (.array .int, N9, .inl xs) : pm_C) h2 → pm_V e_L_law 1529 [some (.ref 0), some (.ref 1), some (.ref 44), some (.int (nI i))] [] h2 (c1, c2) F) : pm_V e_L_law 1428 [some (.ref 0), some (.ref 1), some (.ref 44), some (.int (nI i))] [] H (c1 + 1, c2 + 5) F := by
  have h0 := JJ_0 hJJ
  refine r_aload_1 d_L_law_1428 ?_
  refine law_Xl (b' := (c1, c2)) (j_upper hJJ) hJJ d_L_law_1429 rfl rfl (Nat.le_of_ble_eq_true rfl) (Nat.add_le_add_left (by decide) _) (Nat.add_le_add_left (by decide) _) ?_
  intro x9 h9 Q9 fs9 hs9 h44 hM9 hQ9
  refine r_aload_2 d_L_law_1432 ?_
  refine law_Ml (b' := (c1, c2)) hM9 hQ9 h44 d_L_law_1433 rfl rfl (Nat.le_of_ble_eq_true rfl) (Nat.le_refl _) (Nat.le_refl _) ?_
  intro h8 hJ8
  refine r_lcmp d_L_law_1436 ?_
  refine r_if_eq d_L_law_1437 (fun c1437 => ?_) (fun c1437 => ?_)
  · -- taken at 1437
    exact K _ hJ8
  · -- not taken at 1437
    exact absurd ((lg_cmp_eq x9 x9).mpr rfl) c1437
set_option maxRecDepth 10000 in
set_option maxHeartbeats 4000000 in
theorem lc_32 {N9 i c1 c2 : Nat} {xs : Nat → Int32} {H : pm_H} {F : Option Value → pm_H → Prop} (hN : N9 ≤ 3072) (hi6 : i + 6 ≤ N9) (hJJ : JJ (.inl (.array .int, N9, .inl xs) : pm_C) H) (K : ∀ h2, JJ (.inl (.array .int, N9, .inl xs) : pm_C) h2 → pm_V e_L_law 1529 [some (.ref 0), some (.ref 1), some (.ref 44), some (.int (nI i))] [] h2 (c1, c2) F) : pm_V e_L_law 1442 [some (.ref 0), some (.ref 1), some (.ref 44), some (.int (nI i))] [] H (c1 + 1, c2 + 5) F := by
  have h0 := JJ_0 hJJ
  refine r_aload_1 d_L_law_1442 ?_
  refine law_Xl (b' := (c1, c2)) (j_lower hJJ) hJJ d_L_law_1443 rfl rfl (Nat.le_of_ble_eq_true rfl) (Nat.add_le_add_left (by decide) _) (Nat.add_le_add_left (by decide) _) ?_
  intro x9 h9 Q9 fs9 hs9 h44 hM9 hQ9
  refine r_aload_2 d_L_law_1446 ?_
  refine law_Ml (b' := (c1, c2)) hM9 hQ9 h44 d_L_law_1447 rfl rfl (Nat.le_of_ble_eq_true rfl) (Nat.le_refl _) (Nat.le_refl _) ?_
  intro h8 hJ8
  refine r_lcmp d_L_law_1450 ?_
  refine r_if_eq d_L_law_1451 (fun c1451 => ?_) (fun c1451 => ?_)
  · -- taken at 1451
    exact K _ hJ8
  · -- not taken at 1451
    exact absurd ((lg_cmp_eq x9 x9).mpr rfl) c1451
set_option maxRecDepth 10000 in
set_option maxHeartbeats 4000000 in
theorem lc_33 {N9 i c1 c2 : Nat} {xs : Nat → Int32} {H : pm_H} {F : Option Value → pm_H → Prop} (hN : N9 ≤ 3072) (hi6 : i + 6 ≤ N9) (hJJ : JJ (.inl (.array .int, N9, .inl xs) : pm_C) H) (K : ∀ h2, JJ (.inl (.array .int, N9, .inl xs) : pm_C) h2 → pm_V e_L_law 1529 [some (.ref 0), some (.ref 1), some (.ref 44), some (.int (nI i))] [] h2 (c1, c2) F) : pm_V e_L_law 1456 [some (.ref 0), some (.ref 1), some (.ref 44), some (.int (nI i))] [] H (c1 + 1, c2 + 5) F := by
  have h0 := JJ_0 hJJ
  refine r_aload_1 d_L_law_1456 ?_
  refine r_aload_0 d_L_law_1457 ?_
  refine r_iload_3 d_L_law_1458 ?_
  refine r_push (v := nI 1) d_L_law_1459 ?_
  refine r_iadd d_L_law_1460 ?_
  rw [nI_add]
  refine r_sld d_L_law_1461 h0 (pm_ixN (by omega) (by omega)) ?_
  refine law_X (b' := (c1, c2)) (j_count hJJ) hJJ d_L_law_1462 rfl rfl (Nat.le_of_ble_eq_true rfl) (Nat.add_le_add_left (by decide) _) (Nat.add_le_add_left (by decide) _) ?_
  intro x9 h9 Q9 fs9 hs9 h44 hM9 hQ9
  refine r_aload_2 d_L_law_1465 ?_
  refine r_aload_0 d_L_law_1466 ?_
  refine r_iload_3 d_L_law_1467 ?_
  refine r_push (v := nI 1) d_L_law_1468 ?_
  refine r_iadd d_L_law_1469 ?_
  rw [nI_add]
  refine r_sld d_L_law_1470 hs9 (pm_ixN (by omega) (by omega)) ?_
  refine law_M (b' := (c1, c2)) hM9 hQ9 h44 d_L_law_1471 rfl rfl (Nat.le_of_ble_eq_true rfl) (Nat.le_refl _) (Nat.le_refl _) ?_
  intro h8 hJ8
  refine r_icmp_eq d_L_law_1474 (fun c1474 => ?_) (fun c1474 => ?_)
  · -- taken at 1474
    exact K _ hJ8
  · -- not taken at 1474
    exact absurd rfl c1474
set_option maxRecDepth 10000 in
set_option maxHeartbeats 4000000 in
theorem lc_34 {N9 i c1 c2 : Nat} {xs : Nat → Int32} {H : pm_H} {F : Option Value → pm_H → Prop} (hN : N9 ≤ 3072) (hi6 : i + 6 ≤ N9) (hJJ : JJ (.inl (.array .int, N9, .inl xs) : pm_C) H) (K : ∀ h2, JJ (.inl (.array .int, N9, .inl xs) : pm_C) h2 → pm_V e_L_law 1529 [some (.ref 0), some (.ref 1), some (.ref 44), some (.int (nI i))] [] h2 (c1, c2) F) : pm_V e_L_law 1479 [some (.ref 0), some (.ref 1), some (.ref 44), some (.int (nI i))] [] H (c1 + 1, c2 + 5) F := by
  have h0 := JJ_0 hJJ
  refine r_aload_1 d_L_law_1479 ?_
  refine law_X (b' := (c1, c2)) (j_finding hJJ) hJJ d_L_law_1480 rfl rfl (Nat.le_of_ble_eq_true rfl) (Nat.add_le_add_left (by decide) _) (Nat.add_le_add_left (by decide) _) ?_
  intro x9 h9 Q9 fs9 hs9 h44 hM9 hQ9
  refine r_aload_2 d_L_law_1483 ?_
  refine law_M (b' := (c1, c2)) hM9 hQ9 h44 d_L_law_1484 rfl rfl (Nat.le_of_ble_eq_true rfl) (Nat.le_refl _) (Nat.le_refl _) ?_
  intro h8 hJ8
  refine r_icmp_eq d_L_law_1487 (fun c1487 => ?_) (fun c1487 => ?_)
  · -- taken at 1487
    exact K _ hJ8
  · -- not taken at 1487
    exact absurd rfl c1487
set_option maxRecDepth 10000 in
set_option maxHeartbeats 4000000 in
theorem lc_35 {N9 i c1 c2 : Nat} {xs : Nat → Int32} {H : pm_H} {F : Option Value → pm_H → Prop} (hN : N9 ≤ 3072) (hi6 : i + 6 ≤ N9) (hJJ : JJ (.inl (.array .int, N9, .inl xs) : pm_C) H) (K : ∀ h2, JJ (.inl (.array .int, N9, .inl xs) : pm_C) h2 → pm_V e_L_law 1529 [some (.ref 0), some (.ref 1), some (.ref 44), some (.int (nI i))] [] h2 (c1, c2) F) : pm_V e_L_law 1492 [some (.ref 0), some (.ref 1), some (.ref 44), some (.int (nI i))] [] H (c1 + 1, c2 + 5) F := by
  have h0 := JJ_0 hJJ
  refine r_aload_1 d_L_law_1492 ?_
  refine r_aload_0 d_L_law_1493 ?_
  refine r_iload_3 d_L_law_1494 ?_
  refine r_push (v := nI 1) d_L_law_1495 ?_
  refine r_iadd d_L_law_1496 ?_
  rw [nI_add]
  refine r_sld d_L_law_1497 h0 (pm_ixN (by omega) (by omega)) ?_
  refine law_X (b' := (c1, c2)) (j_findings hJJ) hJJ d_L_law_1498 rfl rfl (Nat.le_of_ble_eq_true rfl) (Nat.add_le_add_left (by decide) _) (Nat.add_le_add_left (by decide) _) ?_
  intro x9 h9 Q9 fs9 hs9 h44 hM9 hQ9
  refine r_aload_2 d_L_law_1501 ?_
  refine r_aload_0 d_L_law_1502 ?_
  refine r_iload_3 d_L_law_1503 ?_
  refine r_push (v := nI 1) d_L_law_1504 ?_
  refine r_iadd d_L_law_1505 ?_
  rw [nI_add]
  refine r_sld d_L_law_1506 hs9 (pm_ixN (by omega) (by omega)) ?_
  refine law_M (b' := (c1, c2)) hM9 hQ9 h44 d_L_law_1507 rfl rfl (Nat.le_of_ble_eq_true rfl) (Nat.le_refl _) (Nat.le_refl _) ?_
  intro h8 hJ8
  refine r_icmp_eq d_L_law_1510 (fun c1510 => ?_) (fun c1510 => ?_)
  · -- taken at 1510
    exact K _ hJ8
  · -- not taken at 1510
    exact absurd rfl c1510
set_option maxRecDepth 10000 in
set_option maxHeartbeats 4000000 in
theorem lc_36 {N9 i c1 c2 : Nat} {xs : Nat → Int32} {H : pm_H} {F : Option Value → pm_H → Prop} (hN : N9 ≤ 3072) (hi6 : i + 6 ≤ N9) (hJJ : JJ (.inl (.array .int, N9, .inl xs) : pm_C) H) (K : ∀ h2, JJ (.inl (.array .int, N9, .inl xs) : pm_C) h2 → pm_V e_L_law 1529 [some (.ref 0), some (.ref 1), some (.ref 44), some (.int (nI i))] [] h2 (c1, c2) F) : pm_V e_L_law 1515 [some (.ref 0), some (.ref 1), some (.ref 44), some (.int (nI i))] [] H (c1 + 1, c2 + 5) F := by
  have h0 := JJ_0 hJJ
  refine r_aload_1 d_L_law_1515 ?_
  refine law_Xl (b' := (c1, c2)) (j_digest hJJ) hJJ d_L_law_1516 rfl rfl (Nat.le_of_ble_eq_true rfl) (Nat.add_le_add_left (by decide) _) (Nat.add_le_add_left (by decide) _) ?_
  intro x9 h9 Q9 fs9 hs9 h44 hM9 hQ9
  refine r_aload_2 d_L_law_1519 ?_
  refine law_Ml (b' := (c1, c2)) hM9 hQ9 h44 d_L_law_1520 rfl rfl (Nat.le_of_ble_eq_true rfl) (Nat.le_refl _) (Nat.le_refl _) ?_
  intro h8 hJ8
  refine r_lcmp d_L_law_1523 ?_
  refine r_if_eq d_L_law_1524 (fun c1524 => ?_) (fun c1524 => ?_)
  · -- taken at 1524
    exact K _ hJ8
  · -- not taken at 1524
    exact absurd ((lg_cmp_eq x9 x9).mpr rfl) c1524
