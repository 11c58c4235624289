theorem j_R_set {xi xi' : Nat → Int32} {XA A XA' A' : Nat → Nat → Int32} {r : Nat} (o : Option Nat) (hR : j_R xi XA A) (hxi : ∀ k, k ≠ 3 + r → xi' k = xi k) (hXA : ∀ k, k ≠ 37 + 2 * r → XA' k = XA k) (hx : match o with
    | none => xi' (3 + r) = -1
    | some z => xi' (3 + r) = nI z ∧ z ≤ 64) (hm : match o with
    | none => A' 62 r = -9
    | some z => A' 62 r = nI z ∧ z ≤ 64) (h62 : ∀ k, k < 4 → k ≠ r → A' 62 k = A 62 k) (h63 : ∀ k, k < 4 → k ≠ r → ∀ q, q < 64 → A' 63 (64 * k + q) = A 63 (64 * k + q)) (hv : ∀ q, q < 64 → XA' (37 + 2 * r) q = A' 63 (64 * r + q)) (hb : ∀ q, vp_nar .byte (XA' (37 + 2 * r) q) = XA' (37 + 2 * r) q) : j_R xi' XA' A' := by
  obtain ⟨rz, r1, r2, r3, r4⟩ := hR
  refine ⟨fun k => if k = r then o else rz k, fun k hk => ?_, fun k hk => ?_, fun k hk q hq => ?_, fun k hk q => ?_⟩
  · by_cases e : k = r
    · subst e; simp only [if_true]; exact hx
    · simp only [if_neg e]; rw [hxi _ (by omega)]; exact r1 k hk
  · by_cases e : k = r
    · subst e; simp only [if_true]; cases o <;> exact hm
    · simp only [if_neg e]; rw [h62 k hk e]; exact r2 k hk
  · by_cases e : k = r
    · subst e; exact hv q hq
    · rw [hXA _ (by omega), h63 k hk e q hq]; exact r3 k hk q hq
  · by_cases e : k = r
    · subst e; exact hb q
    · rw [hXA _ (by omega)]; exact r4 k hk q
theorem j_rows {sc : pm_C} {h : pm_H} {xi : Nat → Int32} {xl : Nat → Int64} {xc : Nat → Option Nat} {XA : Nat → Nat → Int32} {XB : Nat → Nat → Int64} {mi : Nat → Int32} {ml : Nat → Int64} {A : Nat → Nat → Int32} {B : Nat → Nat → Int64} {xi' : Nat → Int32} {xl' ml' : Nat → Int64} {XA' A' : Nat → Nat → Int32} {r : Nat} (hr : r < 4) (hJ : jJ sc h xi xl xc XA mi ml A) (hxi : ∀ k, k ≠ 3 + r → xi' k = xi k) (hXA : ∀ k, k ≠ 37 + 2 * r → XA' k = XA k) (hA' : ∀ k, k ≠ 62 → k ≠ 63 → k ≠ 64 → A' k = A k) (hR : j_R xi' XA' A') (hl : j_A xl' ml') : jJ sc h xi' xl' xc XA' mi ml' A' := by
  obtain ⟨hC, hF, -, hN, hA, hS⟩ := hJ
  exact ⟨j_C_c hC (hxi 0 (by omega)) rfl (fun k h1 h2 => hA' k (by omega) (by omega) (by omega)), j_F_c hF (fun p hp => hXA _ (by omega)) (hA' 58 (by decide) (by decide) (by decide)), hR, j_N_c hN (hxi 1 (by omega)) rfl (hXA 19 (by omega)) (hA' 45 (by decide) (by decide) (by decide)), hl, j_S_c hS (hxi 2 (by omega)) rfl (hXA 11 (by omega)) (hA' 61 (by decide) (by decide) (by decide))⟩
theorem j_not0 {n : Int32} (h1 : ¬ n < 0) (h2 : ¬ 64 < n) : ∃ m, m ≤ 64 ∧ n = nI m := by
  obtain ⟨m, hm, rfl⟩ := sp_in_0 (v := n) (hi := 64) (by decide) (decide_eq_true ⟨Int32.not_lt.mp h1, Int32.not_lt.mp h2⟩)
  exact ⟨m, hm, rfl⟩
set_option maxRecDepth 10000 in
set_option maxHeartbeats 4000000 in
theorem j_row {sc : pm_C} {H : pm_H} {r n : Int32} (hJJ : JJ sc H) : jT sc e_X9_row e_X10_row [.int r, .int n] H := by
  obtain ⟨h, xi, xl, xc, XA, XB, mi, ml, A, B, rfl, hJ⟩ := hJJ
  have hJ0 := hJ
  obtain ⟨hC, hF, hR, hN, hA, hS⟩ := hJ
  cases hr : sp_in r 0 3 with
  | false => exact jt (c_X9_row_bad1 hr) (c_X10_row_bad1 hr) hJ0
  | true =>
    obtain ⟨r, hr3, rfl⟩ := sp_in_0 (hi := 3) (by decide) hr
    have hr4 : r < 4 := by omega
    by_cases h64 : 64 < n
    · exact jt (c_X9_row_bad2 hr4 h64) (c_X10_row_bad2 hr h64) hJ0
    · by_cases h0 : n < 0
      · exact jt (c_X9_row_neg hr4 h0) (c_X10_row_neg hr h0) (j_meet (B := B) (XB := XB) (w := 5) (by decide) hJ0)
      · obtain ⟨n, hn, rfl⟩ := j_not0 h0 h64
        refine jt (c_X9_row hr4 hn) (c_X10_row hr4 hn) (j_rows (XB := XB) (B := B) hr4 hJ0 (fun k hk => if_neg hk) (fun k hk => if_neg hk) (fun k h1 h2 h3 => (if_neg h2).trans (if_neg h1)) (j_R_set (some n) hR (fun k hk => if_neg hk) (fun k hk => if_neg hk) ⟨if_pos rfl, hn⟩ ⟨if_pos rfl, hn⟩ (fun k hk hne => if_neg hne) (fun k hk hne q hq => ?_) (fun q hq => ?_) (fun q => ?_)) hA)
        · show m_bk (A 63) (64 * r) (fun _ => nI 0) 64 (64 * k + q) = _
          unfold m_bk
          rw [if_neg (by omega)]
        · show va_up XA (37 + 2 * r) (pm_fl (nI 0) (XA (37 + 2 * r)) 64) (37 + 2 * r) q = m_bk (A 63) (64 * r) (fun _ => nI 0) 64 (64 * r + q)
          rw [show va_up XA (37 + 2 * r) (pm_fl (nI 0) (XA (37 + 2 * r)) 64) (37 + 2 * r) = pm_fl (nI 0) (XA (37 + 2 * r)) 64 from if_pos rfl]
          unfold m_bk pm_fl
          rw [if_pos hq, if_pos (by omega)]
        · rw [show va_up XA (37 + 2 * r) (pm_fl (nI 0) (XA (37 + 2 * r)) 64) (37 + 2 * r) = pm_fl (nI 0) (XA (37 + 2 * r)) 64 from if_pos rfl]
          unfold pm_fl
          split
          · exact pm_nar0
          · obtain ⟨rz, -, -, -, r4⟩ := hR
            exact r4 r hr4 q
set_option maxRecDepth 10000 in
set_option maxHeartbeats 4000000 in
theorem j_lay {sc : pm_C} {H : pm_H} {r i v : Int32} (hJJ : JJ sc H) : jT sc e_X9_lay e_X10_lay [.int r, .int i, .int v] H := by
  obtain ⟨h, xi, xl, xc, XA, XB, mi, ml, A, B, rfl, hJ⟩ := hJJ
  have hJ0 := hJ
  obtain ⟨hC, hF, hR, hN, hA, hS⟩ := hJ
  cases hr : sp_in r 0 3 with
  | false => exact jt (c_X9_lay_bad hr) (c_X10_lay_bad hr) hJ0
  | true =>
    obtain ⟨r, hr3, rfl⟩ := sp_in_0 (hi := 3) (by decide) hr
    have hr4 : r < 4 := by omega
    have hR0 := hR
    obtain ⟨rz, r1, r2, r3, r4⟩ := hR
    cases hz : rz r with
    | none =>
      have x1 := x_rz_n r1 hr4 hz
      have m1 := m_rz_n r2 hr4 hz
      exact jt (c_X9_lay_none hr4 x1) (c_X10_lay_none hr4 m1) (j_meet (B := B) (XB := XB) (w := 1) (by decide) hJ0)
    | some z =>
      obtain ⟨x1, z64⟩ := x_rz_s r1 hr4 hz
      obtain ⟨m1, -⟩ := m_rz_s r2 hr4 hz
      cases hx : sp_in i 0 (nI z - 1) with
      | false => exact jt (c_X9_lay_far hr4 x1 z64 hx) (c_X10_lay_far hr4 m1 z64 hx) (j_meet (B := B) (XB := XB) (w := 2) (by decide) hJ0)
      | true =>
        rw [sp_in_ci i z (by omega)] at hx
        cases hci : pm_ci i z with
        | none => rw [hci] at hx; cases hx
        | some q =>
          obtain ⟨hq, rfl⟩ := pm_ci_some (by omega) hci
          have hX := c_X9_lay (h := pmM h mi ml A B) (xl := xl) (xc := xc) (XA := XA) (XB := XB) (v := v) hr4 x1 z64 hq
          rw [r3 r hr4 q (by omega)] at hX
          refine jt hX (c_X10_lay hr4 m1 z64 hq) (j_rows (XB := XB) (B := B) hr4 hJ0 (fun k hk => rfl) (fun k hk => if_neg hk) (fun k h1 h2 h3 => if_neg h2) (j_R_set (some z) hR0 (fun k hk => rfl) (fun k hk => if_neg hk) ⟨x1, z64⟩ ⟨m1, z64⟩ (fun k hk hne => rfl) (fun k hk hne p hp => if_neg (by omega)) (fun p hp => ?_) (fun p => ?_)) hA)
          · show va_up XA (37 + 2 * r) _ (37 + 2 * r) p = upd (A 63) (64 * r + q) v.toInt8.toInt32 (64 * r + p)
            rw [show va_up XA (37 + 2 * r) (upd (XA (37 + 2 * r)) q v.toInt8.toInt32) (37 + 2 * r) = upd (XA (37 + 2 * r)) q v.toInt8.toInt32 from if_pos rfl]
            simp only [upd]
            by_cases e : p = q
            · rw [if_pos e, if_pos (by omega)]
            · rw [if_neg e, if_neg (by omega)]; exact r3 r hr4 p hp
          · rw [show va_up XA (37 + 2 * r) (upd (XA (37 + 2 * r)) q v.toInt8.toInt32) (37 + 2 * r) = upd (XA (37 + 2 * r)) q v.toInt8.toInt32 from if_pos rfl]
            simp only [upd]
            by_cases e : p = q
            · rw [if_pos e]; show v.toInt8.toInt32.toInt8.toInt32 = _; simp
            · rw [if_neg e]; exact r4 r hr4 p
set_option maxRecDepth 10000 in
set_option maxHeartbeats 4000000 in
theorem j_tear {sc : pm_C} {H : pm_H} {r : Int32} (hJJ : JJ sc H) : jT sc e_X9_tear e_X10_tear [.int r] H := by
  obtain ⟨h, xi, xl, xc, XA, XB, mi, ml, A, B, rfl, hJ⟩ := hJJ
  have hJ0 := hJ
  obtain ⟨hC, hF, hR, hN, hA, hS⟩ := hJ
  cases hr : sp_in r 0 3 with
  | false => exact jt (c_X9_tear_bad hr) (c_X10_tear_bad hr) hJ0
  | true =>
    obtain ⟨r, hr3, rfl⟩ := sp_in_0 (hi := 3) (by decide) hr
    have hr4 : r < 4 := by omega
    have hR0 := hR
    obtain ⟨rz, r1, r2, r3, r4⟩ := hR
    cases hz : rz r with
    | none =>
      have x1 := x_rz_n r1 hr4 hz
      have m1 := m_rz_n r2 hr4 hz
      exact jt (c_X9_tear_none hr4 x1) (c_X10_tear_none hr4 m1) (j_meet (B := B) (XB := XB) (w := 1) (by decide) hJ0)
    | some z =>
      obtain ⟨x1, z64⟩ := x_rz_s r1 hr4 hz
      obtain ⟨m1, -⟩ := m_rz_s r2 hr4 hz
      exact jt (c_X9_tear hr4 x1 z64) (c_X10_tear hr4 m1 z64) (j_rows (XB := XB) (B := B) hr4 hJ0 (fun k hk => if_neg hk) (fun k hk => rfl) (fun k h1 h2 h3 => if_neg h1) (j_R_set none hR0 (fun k hk => if_neg hk) (fun k hk => rfl) (if_pos rfl) (if_pos rfl) (fun k hk hne => if_neg hne) (fun k hk hne q hq => rfl) (fun q hq => r3 r hr4 q hq) (fun q => r4 r hr4 q)) hA)
set_option maxRecDepth 10000 in
set_option maxHeartbeats 4000000 in
theorem j_misfits {sc : pm_C} {H : pm_H} {r o : Int32} (hJJ : JJ sc H) : jT sc e_X9_misfits e_X10_misfits [.int r, .int o] H := by
  obtain ⟨h, xi, xl, xc, XA, XB, mi, ml, A, B, rfl, hJ⟩ := hJJ
  have hJ0 := hJ
  obtain ⟨hC, hF, hR, hN, hA, hS⟩ := hJ
  cases ho : sp_in o 0 2 with
  | false =>
    cases hr : sp_in r 0 3 with
    | false => exact jt (c_X9_misfits_bad hr) (c_X10_misfits_bad1 ho) hJ0
    | true =>
      obtain ⟨r, hr3, rfl⟩ := sp_in_0 (hi := 3) (by decide) hr
      exact jt (c_X9_misfits_bad1 (by omega) (of_decide_eq_false ho)) (c_X10_misfits_bad1 ho) hJ0
  | true =>
    cases hr : sp_in r 0 3 with
    | false => exact jt (c_X9_misfits_bad hr) (c_X10_misfits_bad ho hr) hJ0
    | true =>
      obtain ⟨r, hr3, rfl⟩ := sp_in_0 (hi := 3) (by decide) hr
      have hr4 : r < 4 := by omega
      have hR0 := hR
      obtain ⟨rz, r1, r2, r3, r4⟩ := hR
      cases hz : rz r with
      | none =>
        have x1 := x_rz_n r1 hr4 hz
        have m1 := m_rz_n r2 hr4 hz
        exact jt (c_X9_misfits_none hr4 (of_decide_eq_true ho) x1) (c_X10_misfits_none ho hr4 m1) (j_meet (B := B) (XB := XB) (w := 1) (by decide) hJ0)
      | some z =>
        obtain ⟨x1, z64⟩ := x_rz_s r1 hr4 hz
        obtain ⟨m1, -⟩ := m_rz_s r2 hr4 hz
        obtain ⟨o, ho2, rfl⟩ := sp_in_0 (hi := 2) (by decide) ho
        have hX := c_X9_misfits (h := pmM h mi ml A B) (xl := xl) (xc := xc) (XA := XA) (XB := XB) hr4 x1 z64 ho2
        rw [sp_mc_cong (o := o) z64 (w := (fun q => A 63 (64 * r + q))) (fun q hq => r3 r hr4 q hq)] at hX
        exact jt hX (c_X10_misfits hr4 m1 z64 ho2) hJ0
set_option maxRecDepth 10000 in
set_option maxHeartbeats 4000000 in
theorem j_swapped {sc : pm_C} {H : pm_H} {r o : Int32} (hJJ : JJ sc H) : jT sc e_X9_swapped e_X10_swapped [.int r, .int o] H := by
  obtain ⟨h, xi, xl, xc, XA, XB, mi, ml, A, B, rfl, hJ⟩ := hJJ
  have hJ0 := hJ
  obtain ⟨hC, hF, hR, hN, hA, hS⟩ := hJ
  cases ho : sp_in o 0 2 with
  | false =>
    cases hr : sp_in r 0 3 with
    | false => exact jt (c_X9_swapped_bad hr) (c_X10_swapped_bad1 ho) hJ0
    | true =>
      obtain ⟨r, hr3, rfl⟩ := sp_in_0 (hi := 3) (by decide) hr
      exact jt (c_X9_swapped_bad1 (by omega) (of_decide_eq_false ho)) (c_X10_swapped_bad1 ho) hJ0
  | true =>
    cases hr : sp_in r 0 3 with
    | false => exact jt (c_X9_swapped_bad hr) (c_X10_swapped_bad ho hr) hJ0
    | true =>
      obtain ⟨r, hr3, rfl⟩ := sp_in_0 (hi := 3) (by decide) hr
      have hr4 : r < 4 := by omega
      have hR0 := hR
      obtain ⟨rz, r1, r2, r3, r4⟩ := hR
      cases hz : rz r with
      | none =>
        have x1 := x_rz_n r1 hr4 hz
        have m1 := m_rz_n r2 hr4 hz
        exact jt (c_X9_swapped_none hr4 (of_decide_eq_true ho) x1) (c_X10_swapped_none ho hr4 m1) (j_meet (B := B) (XB := XB) (w := 1) (by decide) hJ0)
      | some z =>
        obtain ⟨x1, z64⟩ := x_rz_s r1 hr4 hz
        obtain ⟨m1, -⟩ := m_rz_s r2 hr4 hz
        obtain ⟨o, ho2, rfl⟩ := sp_in_0 (hi := 2) (by decide) ho
        have hX := c_X9_swapped (h := pmM h mi ml A B) (xl := xl) (xc := xc) (XA := XA) (XB := XB) hr4 x1 z64 ho2 (r4 r hr4)
        rw [sp_swapped, sp_mc_cong (o := o) z64 (w := (fun q => A 63 (64 * r + q))) (fun q hq => r3 r hr4 q hq), sp_mend_cong z64 (w := (fun q => A 63 (64 * r + q))) (fun q hq => r3 r hr4 q hq)] at hX
        exact jt hX (c_X10_swapped hr4 m1 z64 ho2) hJ0
set_option maxRecDepth 10000 in
set_option maxHeartbeats 4000000 in
theorem j_follows {sc : pm_C} {H : pm_H} {r : Int32} (hJJ : JJ sc H) : jT sc e_X9_follows e_X10_follows [.int r] H := by
  obtain ⟨h, xi, xl, xc, XA, XB, mi, ml, A, B, rfl, hJ⟩ := hJJ
  have hJ0 := hJ
  obtain ⟨hC, hF, hR, hN, hA, hS⟩ := hJ
  cases hr : sp_in r 0 3 with
  | false => exact jt (c_X9_follows_bad hr) (c_X10_follows_bad hr) hJ0
  | true =>
    obtain ⟨r, hr3, rfl⟩ := sp_in_0 (hi := 3) (by decide) hr
    have hr4 : r < 4 := by omega
    have hR0 := hR
    obtain ⟨rz, r1, r2, r3, r4⟩ := hR
    cases hz : rz r with
    | none =>
      have x1 := x_rz_n r1 hr4 hz
      have m1 := m_rz_n r2 hr4 hz
      exact jt (c_X9_follows_none hr4 x1) (c_X10_follows_none hr4 m1) (j_meet (B := B) (XB := XB) (w := 1) (by decide) hJ0)
    | some z =>
      obtain ⟨x1, z64⟩ := x_rz_s r1 hr4 hz
      obtain ⟨m1, -⟩ := m_rz_s r2 hr4 hz
      have hX := c_X9_follows (h := pmM h mi ml A B) (xl := xl) (xc := xc) (XA := XA) (XB := XB) hr4 x1 z64
      rw [sp_mc_cong (o := 0) z64 (w := (fun q => A 63 (64 * r + q))) (fun q hq => r3 r hr4 q hq), sp_mc_cong (o := 1) z64 (w := (fun q => A 63 (64 * r + q))) (fun q hq => r3 r hr4 q hq), sp_mc_cong (o := 2) z64 (w := (fun q => A 63 (64 * r + q))) (fun q hq => r3 r hr4 q hq)] at hX
      exact jt hX (c_X10_follows hr4 m1 z64) ⟨hC, hF, hR0, hN, ⟨rfl, hA.2.1, hA.2.2⟩, hS⟩
set_option maxRecDepth 10000 in
set_option maxHeartbeats 4000000 in
theorem j_lacks {sc : pm_C} {H : pm_H} {r : Int32} (hJJ : JJ sc H) : jT sc e_X9_lacks e_X10_lacks [.int r] H := by
  obtain ⟨h, xi, xl, xc, XA, XB, mi, ml, A, B, rfl, hJ⟩ := hJJ
  have hJ0 := hJ
  obtain ⟨hC, hF, hR, hN, hA, hS⟩ := hJ
  cases hr : sp_in r 0 3 with
  | false => exact jt (c_X9_lacks_bad hr) (c_X10_lacks_bad hr) hJ0
  | true =>
    obtain ⟨r, hr3, rfl⟩ := sp_in_0 (hi := 3) (by decide) hr
    have hr4 : r < 4 := by omega
    have hR0 := hR
    obtain ⟨rz, r1, r2, r3, r4⟩ := hR
    cases hz : rz r with
    | none =>
      have x1 := x_rz_n r1 hr4 hz
      have m1 := m_rz_n r2 hr4 hz
      exact jt (c_X9_lacks_none hr4 x1) (c_X10_lacks_none hr4 m1) (j_meet (B := B) (XB := XB) (w := 1) (by decide) hJ0)
    | some z =>
      obtain ⟨x1, z64⟩ := x_rz_s r1 hr4 hz
      obtain ⟨m1, -⟩ := m_rz_s r2 hr4 hz
      have hX := c_X9_lacks (h := pmM h mi ml A B) (xl := xl) (xc := xc) (XA := XA) (XB := XB) hr4 x1 z64
      rw [sp_lacks, sp_pc_cong (w := (fun q => A 63 (64 * r + q))) (fun q hq => r3 r hr4 q (by omega)), sp_nt_cong (w := (fun q => A 63 (64 * r + q))) (fun q hq => r3 r hr4 q (by omega))] at hX
      exact jt hX (c_X10_lacks hr4 m1 z64) ⟨hC, hF, hR0, hN, ⟨rfl, hA.2.1, hA.2.2⟩, hS⟩
