set_option maxRecDepth 10000 in
set_option maxHeartbeats 4000000 in
theorem j_off {sc : pm_C} {H : pm_H} {r c : Int32} (hJJ : JJ sc H) : jT sc e_X9_off e_X10_off [.int r, .int c] H := by
  obtain ⟨h, xi, xl, xc, XA, XB, mi, ml, A, B, rfl, hJ⟩ := hJJ
  have hJ0 := hJ
  obtain ⟨hC, hF, hR, hN, hA, hS⟩ := hJ
  obtain ⟨cn, C, hx, hm, hh, hsc⟩ := hC
  cases hci : pm_ci c cn with
  | none =>
    cases hr : sp_in r 0 3 with
    | false => exact jt (c_X9_off_1 (x_CC_M (ml := ml) (B := B) (mi := mi) (A := A) hx) hr hci) (c_X10_off_none hm.1 hm.2.1 (by rw [hci]; rfl)) hJ0
    | true =>
      obtain ⟨r, hr3, rfl⟩ := sp_in_0 (hi := 3) (by decide) hr
      exact jt (c_X9_off_3 (x_CC_M (ml := ml) (B := B) (mi := mi) (A := A) hx) (show r < 4 by omega) hci) (c_X10_off_none hm.1 hm.2.1 (by rw [hci]; rfl)) hJ0
  | some j =>
    have hcs9 := hci
    obtain ⟨hj, rfl⟩ := pm_ci_some (Nat.lt_of_le_of_lt hx.2.1 (by decide)) hci
    cases hr : sp_in r 0 3 with
    | false => exact jt (c_X9_off_2 (x_CC_M (ml := ml) (B := B) (mi := mi) (A := A) hx) hr hj) (c_X10_off_bad hm.1 hm.2.1 (by rw [hci]; rfl) hr) hJ0
    | true =>
      obtain ⟨r, hr3, rfl⟩ := sp_in_0 (hi := 3) (by decide) hr
      have hr4 : r < 4 := by omega
      have hR0 := hR
      obtain ⟨rz, r1, r2, r3, r4⟩ := hR
      cases hz : rz r with
      | none => exact jt (c_X9_off_no (x_CC_M (ml := ml) (B := B) (mi := mi) (A := A) hx) hr4 hj (x_rz_n r1 hr4 hz)) (c_X10_off_no hm.1 hm.2.1 (by rw [hci]; rfl) hr4 (m_rz_n r2 hr4 hz)) (j_meet (B := B) (XB := XB) (w := 1) (by decide) hJ0)
      | some z =>
        obtain ⟨x1, z64⟩ := x_rz_s r1 hr4 hz
        obtain ⟨m1, -⟩ := m_rz_s r2 hr4 hz
        have ecv : (fun j => sp_cv (XA (37 + 2 * r)) j z) = (fun j => sp_cv (fun q => A 63 (64 * r + q)) j z) := funext fun j => sp_cv_cong (fun q hq => r3 r hr4 q (by omega))
        have ect : (sp_cn (XA (37 + 2 * r)) z) = (sp_cn (fun q => A 63 (64 * r + q)) z) := sp_cn_cong (fun q hq => r3 r hr4 q (by omega))
        by_cases h0 : (sp_cn (fun q => A 63 (64 * r + q)) z) = 0
        · exact jt (c_X9_off_nought (x_CC_M (ml := ml) (B := B) (mi := mi) (A := A) hx) hr4 hj x1 z64 (by rw [ect]; exact h0)) (c_X10_off_nought hr4 m1 z64 hm.1 hm.2.1 (by rw [hci]; rfl) (decide_eq_false (by omega))) (j_meet (B := B) (XB := XB) (w := 4) (by decide) (j_offs (XB := XB) (B := B) hJ0 (fun k hk => if_neg hk) (fun k h7 h8 => if_neg h8) (fun k h5 h6 h7 => if_neg h5) hA))
        · have hct : 0 < (sp_cn (fun q => A 63 (64 * r + q)) z) := by omega
          have hX := c_X9_off (xl := xl) (XB := XB) (x_CC_M (ml := ml) (B := B) (mi := mi) (A := A) hx) hr4 hj x1 z64 (by rw [ect]; exact hct)
          rw [ecv, ect] at hX
          refine jt2 hJ0 hX ?_
          rintro v h1 ⟨rfl, x, f, g, X1, rfl⟩
          refine ⟨_, xi, _, xc, _, X1, rfl, rfl, _, c_X10_off hr4 m1 z64 hm.1 hm.2.1 hj (hm.2.2 j hj) (decide_eq_true hct), ?_⟩
          rintro v2 h2 ⟨rfl, x9, mx, f9, g9, B1, rfl, hmm⟩
          exact ⟨rfl, _, _, _, _, _, _, _, _, _, _, rfl, j_offs (XB := XB) (B := B) hJ0 (fun k hk => if_neg hk) (fun k h7 h8 => (if_neg h7).trans (if_neg h8)) (fun k h5 h6 h7 => (if_neg h6).trans (if_neg h5)) ⟨rfl, hA.2.1.trans (hmm 1 (by decide) (by decide)).symm, hA.2.2.trans (hmm 2 (by decide) (by decide)).symm⟩⟩
set_option maxRecDepth 10000 in
set_option maxHeartbeats 4000000 in
theorem j_lost {sc : pm_C} {H : pm_H} {r c : Int32} (hJJ : JJ sc H) : jT sc e_X9_lost e_X10_lost [.int r, .int c] H := by
  obtain ⟨h, xi, xl, xc, XA, XB, mi, ml, A, B, rfl, hJ⟩ := hJJ
  have hJ0 := hJ
  obtain ⟨hC, hF, hR, hN, hA, hS⟩ := hJ
  obtain ⟨cn, C, hx, hm, hh, hsc⟩ := hC
  cases hci : pm_ci c cn with
  | none =>
    cases hr : sp_in r 0 3 with
    | false => exact jt (c_X9_lost_1 (x_CC_M (ml := ml) (B := B) (mi := mi) (A := A) hx) hr hci) (c_X10_lost_none hm.1 hm.2.1 (by rw [hci]; rfl)) hJ0
    | true =>
      obtain ⟨r, hr3, rfl⟩ := sp_in_0 (hi := 3) (by decide) hr
      exact jt (c_X9_lost_3 (x_CC_M (ml := ml) (B := B) (mi := mi) (A := A) hx) (show r < 4 by omega) hci) (c_X10_lost_none hm.1 hm.2.1 (by rw [hci]; rfl)) hJ0
  | some j =>
    have hcs9 := hci
    obtain ⟨hj, rfl⟩ := pm_ci_some (Nat.lt_of_le_of_lt hx.2.1 (by decide)) hci
    cases hr : sp_in r 0 3 with
    | false => exact jt (c_X9_lost_2 (x_CC_M (ml := ml) (B := B) (mi := mi) (A := A) hx) hr hj) (c_X10_lost_bad hm.1 hm.2.1 (by rw [hci]; rfl) hr) hJ0
    | true =>
      obtain ⟨r, hr3, rfl⟩ := sp_in_0 (hi := 3) (by decide) hr
      have hr4 : r < 4 := by omega
      have hR0 := hR
      obtain ⟨rz, r1, r2, r3, r4⟩ := hR
      cases hz : rz r with
      | none => exact jt (c_X9_lost_no (x_CC_M (ml := ml) (B := B) (mi := mi) (A := A) hx) hr4 hj (x_rz_n r1 hr4 hz)) (c_X10_lost_no hm.1 hm.2.1 (by rw [hci]; rfl) hr4 (m_rz_n r2 hr4 hz)) (j_meet (B := B) (XB := XB) (w := 1) (by decide) hJ0)
      | some z =>
        obtain ⟨x1, z64⟩ := x_rz_s r1 hr4 hz
        obtain ⟨m1, -⟩ := m_rz_s r2 hr4 hz
        have ecv : (fun j => sp_cv (XA (37 + 2 * r)) j z) = (fun j => sp_cv (fun q => A 63 (64 * r + q)) j z) := funext fun j => sp_cv_cong (fun q hq => r3 r hr4 q (by omega))
        have ect : (sp_cn (XA (37 + 2 * r)) z) = (sp_cn (fun q => A 63 (64 * r + q)) z) := sp_cn_cong (fun q hq => r3 r hr4 q (by omega))
        cases hpk : sp_pk (C j).1 with
        | false => exact jt (c_X9_lost_unlike (x_CC_M (ml := ml) (B := B) (mi := mi) (A := A) hx) hr4 hj x1 z64 hpk) (c_X10_lost_unlike hr4 m1 z64 hm.1 hm.2.1 hj (hm.2.2 j hj) hpk) (j_meet (B := B) (XB := XB) (w := 3) (by decide) hJ0)
        | true =>
          by_cases h0 : (sp_cn (fun q => A 63 (64 * r + q)) z) = 0
          · exact jt (c_X9_lost_nought (x_CC_M (ml := ml) (B := B) (mi := mi) (A := A) hx) hr4 hj x1 z64 hpk (by rw [ect]; exact h0)) (c_X10_lost_nought hr4 m1 z64 hm.1 hm.2.1 hj (hm.2.2 j hj) hpk (decide_eq_false (by omega))) (j_meet (B := B) (XB := XB) (w := 4) (by decide) (j_offs (XB := XB) (B := B) hJ0 (fun k hk => if_neg hk) (fun k h7 h8 => if_neg h8) (fun k h5 h6 h7 => if_neg h5) hA))
          · have hct : 0 < (sp_cn (fun q => A 63 (64 * r + q)) z) := by omega
            have hX := c_X9_lost (xl := xl) (XB := XB) (x_CC_M (ml := ml) (B := B) (mi := mi) (A := A) hx) hr4 hj x1 z64 hpk (by rw [ect]; exact hct)
            rw [ecv, ect] at hX
            have hkd : (C j).1 = 1 ∨ (C j).1 = 3 := by
              simp only [sp_pk, Bool.or_eq_true, beq_iff_eq] at hpk
              exact hpk
            refine jt2 hJ0 hX ?_
            rintro v h1 ⟨rfl, x1l, A1, B1, rfl, h4, h17⟩
            refine ⟨_, xi, _, xc, _, B1, rfl, rfl, _, c_X10_lost hr4 m1 z64 hm.1 hm.2.1 hj (hm.2.2 j hj) hkd (decide_eq_true hct), ?_⟩
            rintro v2 h2 ⟨rfl, x9, mx, f9, g9, B9, rfl, hmm⟩
            exact ⟨rfl, _, _, _, _, _, _, _, _, _, _, rfl, j_offs (XB := XB) (B := B) hJ0 (fun k hk => if_neg hk) h17 (fun k h5 h6 h7 => (if_neg h6).trans (if_neg h5)) (j_A_ml (j_A_l4 hA h4) hmm)⟩
set_option maxRecDepth 10000 in
set_option maxHeartbeats 4000000 in
theorem j_nearest {sc : pm_C} {H : pm_H} {r : Int32} (hJJ : JJ sc H) : jT sc e_X9_nearest e_X10_nearest [.int r] H := by
  obtain ⟨h, xi, xl, xc, XA, XB, mi, ml, A, B, rfl, hJ⟩ := hJJ
  have hJ0 := hJ
  obtain ⟨hC, hF, hR, hN, hA, hS⟩ := hJ
  obtain ⟨cn, C, hx, hm, hh, hsc⟩ := hC
  cases hr : sp_in r 0 3 with
  | false => exact jt (c_X9_nearest_bad hr) (c_X10_nearest_bad hr) hJ0
  | true =>
    obtain ⟨r, hr3, rfl⟩ := sp_in_0 (hi := 3) (by decide) hr
    have hr4 : r < 4 := by omega
    by_cases hc0 : cn = 0
    · subst hc0
      exact jt (c_X9_nearest_empty hr4 hx.1) (c_X10_nearest_empty hr hm.1) hJ0
    · have hc1 : 0 < cn := by omega
      have hR0 := hR
      obtain ⟨rz, r1, r2, r3, r4⟩ := hR
      cases hz : rz r with
      | none => exact jt (c_X9_nearest_no hx.1 hx.2.1 hc1 hr4 (x_rz_n r1 hr4 hz)) (c_X10_nearest_no hr4 hm.1 hm.2.1 hc1 (m_rz_n r2 hr4 hz)) (j_meet (B := B) (XB := XB) (w := 1) (by decide) hJ0)
      | some z =>
        obtain ⟨x1, z64⟩ := x_rz_s r1 hr4 hz
        obtain ⟨m1, -⟩ := m_rz_s r2 hr4 hz
        have ecv : (fun j => sp_cv (XA (37 + 2 * r)) j z) = (fun j => sp_cv (fun q => A 63 (64 * r + q)) j z) := funext fun j => sp_cv_cong (fun q hq => r3 r hr4 q (by omega))
        have ect : (sp_cn (XA (37 + 2 * r)) z) = (sp_cn (fun q => A 63 (64 * r + q)) z) := sp_cn_cong (fun q hq => r3 r hr4 q (by omega))
        by_cases h0 : (sp_cn (fun q => A 63 (64 * r + q)) z) = 0
        · exact jt (c_X9_nearest_nought hx.1 hx.2.1 hc1 hr4 x1 z64 (by rw [ect]; exact h0)) (c_X10_nearest_nought hr4 m1 z64 hm.1 hm.2.1 hc1 (decide_eq_false (by omega))) (j_meet (B := B) (XB := XB) (w := 4) (by decide) (j_offs (XB := XB) (B := B) hJ0 (fun k hk => if_neg hk) (fun k h7 h8 => if_neg h8) (fun k h5 h6 h7 => if_neg h5) hA))
        · have hct : 0 < (sp_cn (fun q => A 63 (64 * r + q)) z) := by omega
          have hX := c_X9_nearest (xl := xl) (XB := XB) (x_CC_M (ml := ml) (B := B) (mi := mi) (A := A) hx) hc1 hr4 x1 z64 (by rw [ect]; exact hct)
          rw [ecv, ect] at hX
          refine jt2 hJ0 hX ?_
          rintro v h1 ⟨rfl, x1l, A1, B1, rfl, h4, h17⟩
          refine ⟨_, xi, _, xc, _, B1, rfl, rfl, _, c_X10_nearest hr4 m1 z64 hm hc1 (decide_eq_true hct), ?_⟩
          rintro v2 h2 ⟨rfl, x9, mx, f9, g9, B9, rfl, hmm⟩
          exact ⟨rfl, _, _, _, _, _, _, _, _, _, _, rfl, j_offs (XB := XB) (B := B) hJ0 (fun k hk => if_neg hk) h17 (fun k h5 h6 h7 => (if_neg h6).trans (if_neg h5)) (j_A_ml (j_A_l4 hA h4) hmm)⟩
set_option maxRecDepth 10000 in
set_option maxHeartbeats 4000000 in
theorem j_need {sc : pm_C} {H : pm_H} {c o : Int32} (hJJ : JJ sc H) : jT sc e_X9_need e_X10_need [.int c, .int o] H := by
  obtain ⟨h, xi, xl, xc, XA, XB, mi, ml, A, B, rfl, hJ⟩ := hJJ
  have hJ0 := hJ
  obtain ⟨hC, hF, hR, hN, hA, hS⟩ := hJ
  obtain ⟨cn, C, hx, hm, hh, hsc⟩ := hC
  cases hci : pm_ci c cn with
  | none =>
    cases hco : pm_ci o cn with
    | none => exact jt (c_X9_need_1 (x_CC_M (ml := ml) (B := B) (mi := mi) (A := A) hx) hci hco) (c_X10_need_1 hm.1 hm.2.1 (by rw [hci]; rfl)) hJ0
    | some j =>
      obtain ⟨hj, rfl⟩ := pm_ci_some (Nat.lt_of_le_of_lt hx.2.1 (by decide)) hco
      exact jt (c_X9_need_2 (x_CC_M (ml := ml) (B := B) (mi := mi) (A := A) hx) hci hj) (c_X10_need_1 hm.1 hm.2.1 (by rw [hci]; rfl)) hJ0
  | some i =>
    obtain ⟨hi9, rfl⟩ := pm_ci_some (Nat.lt_of_le_of_lt hx.2.1 (by decide)) hci
    cases hco : pm_ci o cn with
    | none => exact jt (c_X9_need_3 (x_CC_M (ml := ml) (B := B) (mi := mi) (A := A) hx) hi9 hco) (c_X10_need_2 hm.1 hm.2.1 (by rw [hci]; rfl) (by rw [hco]; rfl)) hJ0
    | some j =>
      obtain ⟨hj, rfl⟩ := pm_ci_some (Nat.lt_of_le_of_lt hx.2.1 (by decide)) hco
      refine jt2 hJ0 (c_X9_need (xl := xl) (XB := XB) (x_CC_M (ml := ml) (B := B) (mi := mi) (A := A) hx) hi9 hj) ?_
      rintro v h1 ⟨rfl, x1l, A1, B1, rfl, h4, h17⟩
      refine ⟨_, xi, _, xc, _, B1, rfl, rfl, _, c_X10_need hm.1 hm.2.1 hi9 hj (hm.2.2 i hi9) (hm.2.2 j hj), ?_⟩
      rintro v2 h2 ⟨rfl, mx, f9, g9, B9, rfl, hmm⟩
      exact ⟨rfl, _, _, _, _, _, _, _, _, _, _, rfl, j_offs (XB := XB) (B := B) hJ0 (fun k hk => rfl) h17 (fun k h5 h6 h7 => (if_neg h7).trans (if_neg h6)) (j_A_ml (j_A_l4 hA h4) hmm)⟩
set_option maxRecDepth 10000 in
set_option maxHeartbeats 4000000 in
theorem j_odds {sc : pm_C} {H : pm_H} {c v : Int32} (hJJ : JJ sc H) : jT sc e_X9_odds e_X10_odds [.int c, .int v] H := by
  obtain ⟨h, xi, xl, xc, XA, XB, mi, ml, A, B, rfl, hJ⟩ := hJJ
  have hJ0 := hJ
  obtain ⟨hC, hF, hR, hN, hA, hS⟩ := hJ
  obtain ⟨cn, C, hx, hm, hh, hsc⟩ := hC
  cases hci : pm_ci c cn with
  | none => exact jt (c_X9_odds_none (x_CC_M (ml := ml) (B := B) (mi := mi) (A := A) hx) hci) (c_X10_odds_none hm.1 hm.2.1 (by rw [hci]; rfl)) hJ0
  | some j =>
    obtain ⟨hj, rfl⟩ := pm_ci_some (Nat.lt_of_le_of_lt hx.2.1 (by decide)) hci
    cases hv : sp_in v 0 30 with
    | false => exact jt (c_X9_odds_bad (x_CC_M (ml := ml) (B := B) (mi := mi) (A := A) hx) hj hv) (c_X10_odds_bad hm.1 hm.2.1 (by rw [hci]; rfl) hv) hJ0
    | true =>
      obtain ⟨v, hv3, rfl⟩ := sp_in_0 (hi := 30) (by decide) hv
      refine jt2 hJ0 (c_X9_odds (xl := xl) (XB := XB) (x_CC_M (ml := ml) (B := B) (mi := mi) (A := A) hx) hj (show v < 31 by omega)) ?_
      rintro v9 h1 ⟨rfl, x9, X1, rfl⟩
      refine ⟨_, xi, _, xc, XA, X1, rfl, rfl, _, c_X10_odds (w0 := fun _ => 0) (Hp := fun _ => 0) (Nx := fun _ => 0) (Nat.lt_of_lt_of_le hj hm.2.1) (hm.2.2 j hj) hm.1 hm.2.1 hj (show v < 31 by omega), ?_⟩
      rintro v2 h2 ⟨rfl, mx, B9, rfl, hmm⟩
      exact ⟨rfl, _, _, _, _, _, _, _, _, _, _, rfl, ⟨cn, C, hx, hm, hh, hsc⟩, hF, hR, hN, ⟨hA.1.trans (hmm 0 (by decide) (by decide)).symm, rfl, rfl⟩, hS⟩
set_option maxRecDepth 10000 in
set_option maxHeartbeats 4000000 in
theorem j_mean {sc : pm_C} {H : pm_H} {c : Int32} (hJJ : JJ sc H) : jT sc e_X9_mean e_X10_mean [.int c] H := by
  obtain ⟨h, xi, xl, xc, XA, XB, mi, ml, A, B, rfl, hJ⟩ := hJJ
  have hJ0 := hJ
  obtain ⟨hC, hF, hR, hN, hA, hS⟩ := hJ
  obtain ⟨cn, C, hx, hm, hh, hsc⟩ := hC
  cases hci : pm_ci c cn with
  | none => exact jt (c_X9_mean_none (x_CC_M (ml := ml) (B := B) (mi := mi) (A := A) hx) hci) (c_X10_mean_none hm.1 hm.2.1 (by rw [hci]; rfl)) hJ0
  | some j =>
    obtain ⟨hj, rfl⟩ := pm_ci_some (Nat.lt_of_le_of_lt hx.2.1 (by decide)) hci
    refine jt2 hJ0 (c_X9_mean (xl := xl) (XB := XB) (x_CC_M (ml := ml) (B := B) (mi := mi) (A := A) hx) hj) ?_
    rintro v h1 ⟨rfl, x9, X1, rfl⟩
    refine ⟨_, xi, _, xc, XA, X1, rfl, rfl, _, c_X10_mean (w0 := fun _ => 0) (Hp := fun _ => 0) (Nx := fun _ => 0) (Nat.lt_of_lt_of_le hj hm.2.1) (hm.2.2 j hj) hm.1 hm.2.1 hj, ?_⟩
    rintro v2 h2 ⟨rfl, mx, B9, rfl, hmm⟩
    exact ⟨rfl, _, _, _, _, _, _, _, _, _, _, rfl, ⟨cn, C, hx, hm, hh, hsc⟩, hF, hR, hN, ⟨hA.1.trans (hmm 0 (by decide) (by decide)).symm, rfl, rfl⟩, hS⟩
set_option maxRecDepth 10000 in
set_option maxHeartbeats 4000000 in
theorem j_asked {sc : pm_C} {H : pm_H}  (hJJ : JJ sc H) : jTl sc e_X9_asked e_X10_asked [] H := by
  obtain ⟨h, xi, xl, xc, XA, XB, mi, ml, A, B, rfl, hJ⟩ := hJJ
  have hJ0 := hJ
  obtain ⟨hC, hF, hR, hN, hA, hS⟩ := hJ
  have hX := c_X9_asked (h := pmM h mi ml A B) (xi := xi) (xl := xl) (xc := xc) (XA := XA) (XB := XB)
  rw [hA.1] at hX
  exact jtl hX c_X10_asked hJ0
set_option maxRecDepth 10000 in
set_option maxHeartbeats 4000000 in
theorem j_upper {sc : pm_C} {H : pm_H}  (hJJ : JJ sc H) : jTl sc e_X9_upper e_X10_upper [] H := by
  obtain ⟨h, xi, xl, xc, XA, XB, mi, ml, A, B, rfl, hJ⟩ := hJJ
  have hJ0 := hJ
  obtain ⟨hC, hF, hR, hN, hA, hS⟩ := hJ
  have hX := c_X9_upper (h := pmM h mi ml A B) (xi := xi) (xl := xl) (xc := xc) (XA := XA) (XB := XB)
  rw [hA.2.1] at hX
  exact jtl hX c_X10_upper hJ0
set_option maxRecDepth 10000 in
set_option maxHeartbeats 4000000 in
theorem j_lower {sc : pm_C} {H : pm_H}  (hJJ : JJ sc H) : jTl sc e_X9_lower e_X10_lower [] H := by
  obtain ⟨h, xi, xl, xc, XA, XB, mi, ml, A, B, rfl, hJ⟩ := hJJ
  have hJ0 := hJ
  obtain ⟨hC, hF, hR, hN, hA, hS⟩ := hJ
  have hX := c_X9_lower (h := pmM h mi ml A B) (xi := xi) (xl := xl) (xc := xc) (XA := XA) (XB := XB)
  rw [hA.2.2] at hX
  exact jtl hX c_X10_lower hJ0
set_option maxRecDepth 10000 in
set_option maxHeartbeats 4000000 in
theorem j_finding {sc : pm_C} {H : pm_H}  (hJJ : JJ sc H) : jT sc e_X9_finding e_X10_finding [] H := by
  obtain ⟨h, xi, xl, xc, XA, XB, mi, ml, A, B, rfl, hJ⟩ := hJJ
  have hJ0 := hJ
  obtain ⟨hC, hF, hR, hN, hA, hS⟩ := hJ
  have hX := c_X9_finding (h := pmM h mi ml A B) (xi := xi) (xl := xl) (xc := xc) (XA := XA) (XB := XB)
  rw [hN.1] at hX
  exact jt hX c_X10_finding hJ0
set_option maxRecDepth 10000 in
set_option maxHeartbeats 4000000 in
theorem j_findings {sc : pm_C} {H : pm_H} {f : Int32} (hJJ : JJ sc H) : jT sc e_X9_findings e_X10_findings [.int f] H := by
  obtain ⟨h, xi, xl, xc, XA, XB, mi, ml, A, B, rfl, hJ⟩ := hJJ
  have hJ0 := hJ
  obtain ⟨hC, hF, hR, hN, hA, hS⟩ := hJ
  cases hf : sp_in f 1 5 with
  | false => exact jt (c_X9_findings_bad hf) (c_X10_findings_bad hf) hJ0
  | true =>
    obtain ⟨f, f1, f2, rfl⟩ := sp_in_nat (lo := 1) (hi := 5) (by decide) (by decide) hf
    have hX := c_X9_findings (h := pmM h mi ml A B) (xi := xi) (xl := xl) (xc := xc) (XA := XA) (XB := XB) ⟨f1, f2⟩
    rw [hN.2 f (by omega)] at hX
    exact jt hX (c_X10_findings ⟨f1, f2⟩) hJ0
set_option maxRecDepth 10000 in
set_option maxHeartbeats 4000000 in
theorem j_count {sc : pm_C} {H : pm_H} {w : Int32} (hJJ : JJ sc H) : jT sc e_X9_count e_X10_count [.int w] H := by
  obtain ⟨h, xi, xl, xc, XA, XB, mi, ml, A, B, rfl, hJ⟩ := hJJ
  have hJ0 := hJ
  obtain ⟨hC, hF, hR, hN, hA, hS⟩ := hJ
  by_cases w0 : w = 0
  · subst w0
    obtain ⟨cn, C, hx, hm, hh⟩ := hC
    have hX := c_X9_count0 (h := pmM h mi ml A B) (xi := xi) (xl := xl) (xc := xc) (XA := XA) (XB := XB)
    rw [hx.1, ← hm.1] at hX
    exact jt hX c_X10_count0 hJ0
  · by_cases w1 : w = 1
    · subst w1
      obtain ⟨rz, r1, r2, r3, r4⟩ := hR
      exact jt (c_X9_count1 r1) (c_X10_count1 r2) hJ0
    · by_cases w2 : w = 2
      · subst w2
        obtain ⟨g, g1, g2⟩ := hF
        have hX := c_X9_count2 (h := pmM h mi ml A B) (xi := xi) (xl := xl) (xc := xc) (XA := XA) (XB := XB) (g := fun p j => g (6 * p + j)) (fun p hp j hj => ⟨g2 p hp j hj, (g1 (6 * p + j) (by omega)).2⟩)
        rw [sp_o8_old (k := g) (fun p hp j hj => rfl) 8 (by decide)] at hX
        exact jt hX (c_X10_count2 g1) hJ0
      · refine jt (c_X9_count3 w0 w1 w2) (c_X10_count3 w0 ?_) hJ0
        cases h12 : sp_in w 1 2 with
        | false => rfl
        | true =>
          obtain ⟨y, y1, y2, rfl⟩ := sp_in_nat (lo := 1) (hi := 2) (by decide) (by decide) h12
          rcases (show y = 1 ∨ y = 2 by omega) with rfl | rfl
          · exact absurd rfl w1
          · exact absurd rfl w2
set_option maxRecDepth 10000 in
set_option maxHeartbeats 4000000 in
theorem j_digest {sc : pm_C} {H : pm_H}  (hJJ : JJ sc H) : jTl sc e_X9_digest e_X10_digest [] H := by
  obtain ⟨h, xi, xl, xc, XA, XB, mi, ml, A, B, rfl, hJ⟩ := hJJ
  have hJ0 := hJ
  obtain ⟨hC, hF, hR, hN, hA, hS⟩ := hJ
  obtain ⟨cn, C, hx, hm, hh, hsc⟩ := hC
  have hR0 := hR
  obtain ⟨rz, r1, r2, r3, r4⟩ := hR
  have hF0 := hF
  obtain ⟨g, g1, g2⟩ := hF
  have hX := c_X9_digest (xl := xl) (XA := XA) (XB := XB) (x_CC_M (ml := ml) (B := B) (mi := mi) (A := A) hx) r1
  rw [sp_dg_df (f := A 58) (fun p hp j hj => by rw [g2 p hp j hj, (g1 _ (by omega)).1]) 8 _ (by decide), sp_dr_cong (w := fun r q => A 63 (64 * r + q)) (fun r hr z hz => (m_rz_s r2 hr hz).2) (fun r hr q hq => r3 r hr q hq) 4 _ (by decide)] at hX
  exact jtl hX (c_X10_digest hm r2) hJ0
