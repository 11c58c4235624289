theorem m_at {A : Nat → Nat → Int32} {k : Nat} {f : Nat → Int32} : va_up A k f k = f := if_pos rfl
theorem j_nn {n : Int32} (h : ¬ n < 0) : ∃ m, m < 2 ^ 31 ∧ n = nI m := by
  have h1 : 0 ≤ n.toInt := by
    rw [Int32.lt_iff_toInt_lt] at h
    have : (0 : Int32).toInt = 0 := rfl
    omega
  have h2 := Int32.toInt_lt n
  refine ⟨n.toInt.toNat, by omega, ?_⟩
  apply Int32.toInt_inj.mp
  rw [nI_toInt (by omega)]
  omega
theorem j_le {a z m : Nat} (hz : z ≤ 64) (ha : a < 2 ^ 31) (hm : m < 2 ^ 31) : nI a ≤ nI z - nI m ↔ a + m ≤ z := by
  rw [Int32.le_iff_toInt_le, nI_toInt ha, Int32.toInt_sub, nI_toInt (show z < 2 ^ 31 by omega), nI_toInt hm]
  have e : ((z : Int) - (m : Int)).bmod (2 ^ 32) = (z : Int) - m := by
    rw [Int.bmod_def]; split <;> omega
  rw [e]
  omega
theorem j_ge0 {a : Nat} (ha : a < 2 ^ 31) : 0 ≤ nI a := (nI_leI (a := 0) (b := a) (by omega) ha).mpr (Nat.zero_le _)
theorem j_neg {i : Int32} {x : Int32} (h : i < 0) : ¬ (0 ≤ i ∧ i ≤ x) := fun z => absurd h (Int32.not_lt.mpr z.1)
theorem j_offs {sc : pm_C} {h : pm_H} {xi : Nat → Int32} {xl : Nat → Int64} {xc : Nat → Option Nat} {XA : Nat → Nat → Int32} {XB : Nat → Nat → Int64} {mi : Nat → Int32} {ml : Nat → Int64} {A : Nat → Nat → Int32} {B : Nat → Nat → Int64} {mi' : Nat → Int32} {xl' ml' : Nat → Int64} {XA' A' : Nat → Nat → Int32} (hJ : jJ sc h xi xl xc XA mi ml A) (hmi : ∀ k, k ≠ 3 → mi' k = mi k) (hXA : ∀ k, k ≠ 17 → k ≠ 18 → XA' k = XA k) (hA' : ∀ k, k ≠ 65 → k ≠ 66 → k ≠ 67 → A' k = A k) (hl : j_A xl' ml') : jJ sc h xi xl' xc XA' mi' ml' A' := by
  obtain ⟨hC, hF, hR, hN, hA, hS⟩ := hJ
  exact ⟨j_C_c hC rfl (hmi 1 (by decide)) (fun k h1 h2 => hA' k (by omega) (by omega) (by omega)), j_F_c hF (fun p hp => hXA _ (by omega) (by omega)) (hA' 58 (by decide) (by decide) (by decide)), j_R_c hR (fun _ _ => rfl) (fun r hr => hXA _ (by omega) (by omega)) (hA' 62 (by decide) (by decide) (by decide)) (hA' 63 (by decide) (by decide) (by decide)), j_N_c hN rfl (hmi 0 (by decide)) (hXA 19 (by decide) (by decide)) (hA' 45 (by decide) (by decide) (by decide)), hl, j_S_c hS rfl (hmi 2 (by decide)) (hXA 11 (by decide) (by decide)) (hA' 61 (by decide) (by decide) (by decide))⟩
theorem j_A_ml {xl ml mx : Nat → Int64} (hA : j_A xl ml) (hm : m_ml ml mx) : j_A xl mx := ⟨hA.1.trans (hm 0 (by decide) (by decide)).symm, hA.2.1.trans (hm 1 (by decide) (by decide)).symm, hA.2.2.trans (hm 2 (by decide) (by decide)).symm⟩
theorem j_A_l4 {xl x1 ml : Nat → Int64} (hA : j_A xl ml) (hm : x_l4 xl x1) : j_A x1 ml := ⟨(hm 0 (by decide)).trans hA.1, (hm 1 (by decide)).trans hA.2.1, (hm 2 (by decide)).trans hA.2.2⟩
set_option maxRecDepth 10000 in
set_option maxHeartbeats 4000000 in
theorem j_copy {sc : pm_C} {H : pm_H} {r i t j n : Int32} (hJJ : JJ sc H) : jT sc e_X9_copy e_X10_copy [.int r, .int i, .int t, .int j, .int n] H := by
  obtain ⟨h, xi, xl, xc, XA, XB, mi, ml, A, B, rfl, hJ⟩ := hJJ
  have hJ0 := hJ
  obtain ⟨hC, hF, hR, hN, hA, hS⟩ := hJ
  cases hr : sp_in r 0 3 with
  | false =>
    cases ht : sp_in t 0 3 with
    | false => exact jt (c_X9_copy_bad1a hr ht) (c_X10_copy_bad1 hr) hJ0
    | true =>
      obtain ⟨t, ht3, rfl⟩ := sp_in_0 (hi := 3) (by decide) ht
      exact jt (c_X9_copy_bad1b hr (show t < 4 by omega)) (c_X10_copy_bad1 hr) hJ0
  | true =>
    obtain ⟨r, hr3, rfl⟩ := sp_in_0 (hi := 3) (by decide) hr
    have hr4 : r < 4 := by omega
    cases ht : sp_in t 0 3 with
    | false => exact jt (c_X9_copy_bad2 hr4 ht) (c_X10_copy_bad2 hr ht) hJ0
    | true =>
      obtain ⟨t, ht3, rfl⟩ := sp_in_0 (hi := 3) (by decide) ht
      have ht4 : t < 4 := by omega
      by_cases hn : n < 0
      · exact jt (c_X9_copy_neg hr4 ht4 hn) (c_X10_copy_neg hr ht hn) (j_meet (B := B) (XB := XB) (w := 5) (by decide) hJ0)
      · obtain ⟨m, hm, rfl⟩ := j_nn hn
        have hR0 := hR
        obtain ⟨rz, r1, r2, r3, r4⟩ := hR
        cases hz : rz r with
        | none => exact jt (c_X9_copy_none1 hr4 ht4 hm (x_rz_n r1 hr4 hz)) (c_X10_copy_none1 hr4 ht4 hm (m_rz_n r2 hr4 hz)) (j_meet (B := B) (XB := XB) (w := 1) (by decide) hJ0)
        | some z =>
          obtain ⟨x1, z64⟩ := x_rz_s r1 hr4 hz
          obtain ⟨m1, -⟩ := m_rz_s r2 hr4 hz
          cases hy : rz t with
          | none => exact jt (c_X9_copy_none2 hr4 ht4 hm x1 z64 (x_rz_n r1 ht4 hy)) (c_X10_copy_none2 hr4 ht4 hm m1 z64 (m_rz_n r2 ht4 hy)) (j_meet (B := B) (XB := XB) (w := 1) (by decide) hJ0)
          | some y =>
            obtain ⟨x2, y64⟩ := x_rz_s r1 ht4 hy
            obtain ⟨m2, -⟩ := m_rz_s r2 ht4 hy
            by_cases hi0 : i < 0
            · exact jt (c_X9_copy_far1 hr4 ht4 hm x1 z64 x2 y64 (j_neg hi0)) (c_X10_copy_far1 hr4 ht4 hm m1 z64 m2 y64 hi0) (j_meet (B := B) (XB := XB) (w := 2) (by decide) hJ0)
            · obtain ⟨a, ha, rfl⟩ := j_nn hi0
              by_cases hj0 : j < 0
              · have hM := fun h => c_X10_copy_far2 (h := h) (ml := ml) (B := B) (mi := mi) (A := A) hr4 ht4 hm ha m1 z64 m2 y64 hj0
                by_cases h1 : 0 ≤ nI a ∧ nI a ≤ nI z - nI m
                · exact jt (c_X9_copy_far2 hr4 ht4 hm x1 z64 x2 y64 h1 (j_neg hj0)) (hM _) (j_meet (B := B) (XB := XB) (w := 2) (by decide) hJ0)
                · exact jt (c_X9_copy_far1 hr4 ht4 hm x1 z64 x2 y64 h1) (hM _) (j_meet (B := B) (XB := XB) (w := 2) (by decide) hJ0)
              · obtain ⟨c, hc, rfl⟩ := j_nn hj0
                have l1 := j_le (a := a) z64 ha hm
                have l2 := j_le (a := c) y64 hc hm
                by_cases hf : z < a + m
                · exact jt (c_X9_copy_far1 hr4 ht4 hm x1 z64 x2 y64 (fun w => by have := l1.mp w.2; omega)) (c_X10_copy_far3 hr4 ht4 hm ha hc m1 z64 m2 y64 hf) (j_meet (B := B) (XB := XB) (w := 2) (by decide) hJ0)
                · have hf : a + m ≤ z := by omega
                  by_cases hf2 : y < c + m
                  · exact jt (c_X9_copy_far2 hr4 ht4 hm x1 z64 x2 y64 ⟨j_ge0 ha, l1.mpr hf⟩ (fun w => by have := l2.mp w.2; omega)) (c_X10_copy_far4 hr4 ht4 hm ha hc m1 z64 m2 y64 hf hf2) (j_meet (B := B) (XB := XB) (w := 2) (by decide) hJ0)
                  · have hf2 : c + m ≤ y := by omega
                    refine jt (c_X9_copy hr4 ht4 x1 z64 x2 y64 (r4 r hr4) hf hf2) (c_X10_copy hr4 ht4 hm ha hc m1 z64 m2 y64 hf hf2) (j_rows (XB := XB) (B := B) ht4 hJ0 (fun k hk => rfl) (fun k hk => if_neg hk) (fun k h1 h2 h3 => (if_neg h2).trans (if_neg h3)) (j_R_set (some y) hR0 (fun k hk => rfl) (fun k hk => if_neg hk) ⟨x2, y64⟩ ⟨m2, y64⟩ (fun k hk hne => rfl) (fun k hk hne q hq => ?_) (fun q hq => ?_) (fun q => ?_)) hA)
                    · rw [m_at]
                      unfold m_bk
                      rw [if_neg (by omega)]
                    · rw [show va_up XA (37 + 2 * t) (va_cpy (XA (37 + 2 * r)) (XA (37 + 2 * t)) a c m) (37 + 2 * t) = va_cpy (XA (37 + 2 * r)) (XA (37 + 2 * t)) a c m from if_pos rfl]
                      show va_cpy (XA (37 + 2 * r)) (XA (37 + 2 * t)) a c m q = m_bk (A 63) (64 * t + c) (fun q => A 63 (64 * r + a + q)) m (64 * t + q)
                      unfold va_cpy m_bk
                      by_cases e : c ≤ q ∧ q < c + m
                      · rw [if_pos e, if_pos (by omega), r3 r hr4 _ (by omega)]
                        congr 1; omega
                      · rw [if_neg e, if_neg (by omega)]; exact r3 t ht4 q hq
                    · rw [show va_up XA (37 + 2 * t) (va_cpy (XA (37 + 2 * r)) (XA (37 + 2 * t)) a c m) (37 + 2 * t) = va_cpy (XA (37 + 2 * r)) (XA (37 + 2 * t)) a c m from if_pos rfl]
                      unfold va_cpy
                      split
                      · exact r4 r hr4 _
                      · exact r4 t ht4 _
set_option maxRecDepth 10000 in
set_option maxHeartbeats 4000000 in
theorem j_record {sc : pm_C} {H : pm_H} {r c m : Int32} {s : Int64} (hJJ : JJ sc H) : jT sc e_X9_record e_X10_record [.int r, .int c, .long s, .int m] H := by
  obtain ⟨h, xi, xl, xc, XA, XB, mi, ml, A, B, rfl, hJ⟩ := hJJ
  have hJ0 := hJ
  obtain ⟨hC, hF, hR, hN, hA, hS⟩ := hJ
  obtain ⟨cn, C, hx, hm, hh, hsc⟩ := hC
  cases hr : sp_in r 0 3 with
  | false =>
    cases hci : pm_ci c cn with
    | none => exact jt (c_X9_record_bad1a (x_CC_M (ml := ml) (B := B) (mi := mi) (A := A) hx) hr hci) (c_X10_record_bad1 hr) hJ0
    | some j =>
      obtain ⟨hj, rfl⟩ := pm_ci_some (Nat.lt_of_le_of_lt hx.2.1 (by decide)) hci
      exact jt (c_X9_record_bad1b (x_CC_M (ml := ml) (B := B) (mi := mi) (A := A) hx) hr hj) (c_X10_record_bad1 hr) hJ0
  | true =>
    obtain ⟨r, hr3, rfl⟩ := sp_in_0 (hi := 3) (by decide) hr
    have hr4 : r < 4 := by omega
    cases hci : pm_ci c cn with
    | none => exact jt (c_X9_record_bad2 (x_CC_M (ml := ml) (B := B) (mi := mi) (A := A) hx) hr4 hci) (c_X10_record_bad2 hm.1 hm.2.1 hr hci) hJ0
    | some j =>
      obtain ⟨hj, rfl⟩ := pm_ci_some (Nat.lt_of_le_of_lt hx.2.1 (by decide)) hci
      cases hmm : sp_in m 0 64 with
      | false => exact jt (c_X9_record_bad3 (x_CC_M (ml := ml) (B := B) (mi := mi) (A := A) hx) hr4 hj hmm) (c_X10_record_bad3 hm.1 hm.2.1 hr hci hmm) hJ0
      | true =>
        obtain ⟨m, hm64, rfl⟩ := sp_in_0 (hi := 64) (by decide) hmm
        have hln : ∀ i, sp_ln (C j).1 (C j).2.1 (C j).2.2.1 (C j).2.2.2.1 (C j).2.2.2.2.1 (C j).2.2.2.2.2 s i ≤ 30 := fun i => sp_draw_le (pm_cs_k (hx.2.2 j hj).2) _
        refine jt (c_X9_record (x_CC_M (ml := ml) (B := B) (mi := mi) (A := A) hx) hr4 hj hm64) (c_X10_record hr4 hm.1 hm.2.1 hj hm64 (hm.2.2 j hj)) (j_rows (XB := XB) (B := B) hr4 hJ0 (fun k hk => if_neg hk) (fun k hk => if_neg hk) (fun k h1 h2 h3 => (if_neg h2).trans (if_neg h1)) (j_R_set (some m) hR (fun k hk => if_neg hk) (fun k hk => if_neg hk) ⟨if_pos rfl, hm64⟩ ⟨if_pos rfl, hm64⟩ (fun k hk hne => if_neg hne) (fun k hk hne q hq => ?_) (fun q hq => ?_) (fun q => ?_)) hA)
        · rw [m_at]
          unfold m_bk
          rw [if_neg (by omega)]
        · rw [show va_up XA (37 + 2 * r) (pm_fc (fun i => nI (sp_ln (C j).1 (C j).2.1 (C j).2.2.1 (C j).2.2.2.1 (C j).2.2.2.2.1 (C j).2.2.2.2.2 s i)) (pm_fl (nI 0) (XA (37 + 2 * r)) 64) m) (37 + 2 * r) = (pm_fc (fun i => nI (sp_ln (C j).1 (C j).2.1 (C j).2.2.1 (C j).2.2.2.1 (C j).2.2.2.2.1 (C j).2.2.2.2.2 s i)) (pm_fl (nI 0) (XA (37 + 2 * r)) 64) m) from if_pos rfl]
          rw [m_at]
          unfold m_bk pm_fc pm_fl
          rw [if_pos (show 64 * r ≤ 64 * r + q ∧ 64 * r + q < 64 * r + 64 by omega), show 64 * r + q - 64 * r = q by omega]
          by_cases e : q < m
          · simp only [if_pos e]
          · simp only [if_neg e, if_pos hq]
        · rw [show va_up XA (37 + 2 * r) (pm_fc (fun i => nI (sp_ln (C j).1 (C j).2.1 (C j).2.2.1 (C j).2.2.2.1 (C j).2.2.2.2.1 (C j).2.2.2.2.2 s i)) (pm_fl (nI 0) (XA (37 + 2 * r)) 64) m) (37 + 2 * r) = (pm_fc (fun i => nI (sp_ln (C j).1 (C j).2.1 (C j).2.2.1 (C j).2.2.2.1 (C j).2.2.2.2.1 (C j).2.2.2.2.2 s i)) (pm_fl (nI 0) (XA (37 + 2 * r)) 64) m) from if_pos rfl]
          unfold pm_fc pm_fl
          split
          · exact (x_b30 _ (by have := hln q; omega)).2
          · split
            · exact pm_nar0
            · obtain ⟨rz, -, -, -, r4⟩ := hR
              exact r4 r hr4 q
