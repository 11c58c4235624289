theorem sp_num_in {x : Int32} : sp_num x = sp_in x 0 63 := by
  unfold sp_num sp_in
  have e : x < 64 ↔ x ≤ 63 := by
    rw [Int32.lt_iff_toInt_lt, Int32.le_iff_toInt_le]
    have e1 : (64 : Int32).toInt = 64 := rfl
    have e2 : (63 : Int32).toInt = 63 := rfl
    omega
  rw [decide_eq_decide.mpr (and_congr Iff.rfl e)]
theorem j_ways {sc : pm_C} {h : pm_H} {xi : Nat → Int32} {xl : Nat → Int64} {xc : Nat → Option Nat} {XA : Nat → Nat → Int32} {XB : Nat → Nat → Int64} {mi : Nat → Int32} {ml : Nat → Int64} {A : Nat → Nat → Int32} {B : Nat → Nat → Int64} {xi' mi' : Nat → Int32} {X1 A' : Nat → Nat → Int32} (hJ : jJ sc h xi xl xc XA mi ml A) (hxi : ∀ k, k ≠ 2 → xi' k = xi k) (hmi : ∀ k, k ≠ 2 → mi' k = mi k) (hch : x_c4 XA X1) (hA' : ∀ k, k ≠ 60 → k ≠ 61 → A' k = A k) (hS : j_S xi' X1 mi' A') : jJ sc h xi' xl xc X1 mi' ml A' := by
  obtain ⟨hC, hF, hR, hN, hA, -⟩ := hJ
  exact ⟨j_C_c hC (hxi 0 (by decide)) (hmi 1 (by decide)) (fun k h1 h2 => hA' k (by omega) (by omega)), j_F_c hF (fun p hp => hch _ (by omega)) (hA' 58 (by decide) (by decide)), j_R_c hR (fun r hr => hxi _ (by omega)) (fun r hr => hch _ (by omega)) (hA' 62 (by decide) (by decide)) (hA' 63 (by decide) (by decide)), j_N_c hN (hxi 1 (by decide)) (hmi 0 (by decide)) (hch 19 (by decide)) (hA' 45 (by decide) (by decide)), hA, hS⟩
set_option maxRecDepth 10000 in
set_option maxHeartbeats 4000000 in
theorem j_way {sc : pm_C} {H : pm_H} {x y w9 : Int32} (hJJ : JJ sc H) : jT sc e_X9_way e_X10_way [.int x, .int y, .int w9] H := by
  obtain ⟨h, xi, xl, xc, XA, XB, mi, ml, A, B, rfl, hJ⟩ := hJJ
  have hJ0 := hJ
  obtain ⟨hC, hF, hR, hN, hA, hS⟩ := hJ
  cases hx : sp_in x 0 63 with
  | false => exact jt (c_X9_way_1 (by rw [sp_num_in]; exact hx)) (c_X10_way_1 hx) hJ0
  | true =>
    cases hy : sp_in y 0 63 with
    | false => exact jt (c_X9_way_2 (by rw [sp_num_in]; exact hx) (by rw [sp_num_in]; exact hy)) (c_X10_way_2 hx hy) hJ0
    | true =>
      cases hl : sp_in w9 0 511 with
      | false => exact jt (c_X9_way_3 (by rw [sp_num_in]; exact hx) (by rw [sp_num_in]; exact hy) hl) (c_X10_way_3 hx hy hl) hJ0
      | true =>
        obtain ⟨x, hx3, rfl⟩ := sp_in_0 (hi := 63) (by decide) hx
        obtain ⟨y, hy3, rfl⟩ := sp_in_0 (hi := 63) (by decide) hy
        obtain ⟨lt, hl3, rfl⟩ := sp_in_0 (hi := 511) (by decide) hl
        obtain ⟨st, s1, s2, s3, s4⟩ := hS
        have hsh := (sp_bfs (lt := lt) (wt := fun _ => 0) (bf := fun _ => none) (mb := fun _ => 0) (ac := fun _ => 0) (show x < 64 by omega) (show y < 64 by omega)).2.1
        refine jt2 hJ0 (c_X9_way s2 (show x < 64 by omega) (show y < 64 by omega) (show lt < 512 by omega)) ?_
        intro v h1 hP
        rcases hP with ⟨p1, rfl, X1, rfl, hch⟩ | ⟨n, X1, p1, rfl, rfl, hch⟩
        · refine ⟨_, _, xl, xc, X1, XB, rfl, rfl, _, c_X10_way (show x < 64 by omega) (show y < 64 by omega) (show lt < 512 by omega) hsh, ?_⟩
          rintro v2 h2 ⟨fr, i1, i2, ⟨e1, -⟩ | ⟨e1, rfl, rfl⟩⟩
          · have := p1 fr i1; omega
          · refine ⟨rfl, _, _, _, _, _, _, _, _, _, _, rfl, j_ways (XB := XB) (B := B) hJ0 (fun k hk => if_neg hk) (fun k hk => if_neg hk) hch (fun k h0 h1 => if_neg h0) ⟨0, by decide, rfl, Or.inr ⟨rfl, rfl⟩, fun j hj => absurd hj (by omega)⟩⟩
        · refine ⟨_, _, xl, xc, X1, XB, rfl, rfl, _, c_X10_way (show x < 64 by omega) (show y < 64 by omega) (show lt < 512 by omega) hsh, ?_⟩
          rintro v2 h2 ⟨fr, i1, i2, ⟨e1, rfl, sr, q1, rfl⟩ | ⟨e1, -⟩⟩
          · obtain ⟨f1, f2, f3⟩ := p1 fr i1 i2
            subst f2
            refine ⟨rfl, _, _, _, _, _, _, _, _, _, _, rfl, j_ways (XB := XB) (B := B) hJ0 (fun k hk => if_neg hk) (fun k hk => if_neg hk) hch (fun k h0 h1 => (if_neg h1).trans (if_neg h0)) ⟨fr x, by omega, rfl, Or.inl rfl, fun j hj => ?_⟩⟩
            rw [f3 j hj]
            exact (q1 j hj).symm
          · have := (p1 fr i1 i2).1; omega
set_option maxRecDepth 10000 in
set_option maxHeartbeats 4000000 in
theorem j_step {sc : pm_C} {H : pm_H} {i : Int32} (hJJ : JJ sc H) : jT sc e_X9_step e_X10_step [.int i] H := by
  obtain ⟨h, xi, xl, xc, XA, XB, mi, ml, A, B, rfl, hJ⟩ := hJJ
  have hJ0 := hJ
  obtain ⟨hC, hF, hR, hN, hA, hS⟩ := hJ
  obtain ⟨st, s1, s2, s3, s4⟩ := hS
  have hX := c_X9_step (h := pmM h mi ml A B) (xl := xl) (xc := xc) (XA := XA) (XB := XB) (i := i) s2 s1
  by_cases hi : 0 ≤ i ∧ i < nI st
  · obtain ⟨j, hj, rfl⟩ := pm_rng (x := i) (n := st) (Int32.not_lt.mpr hi.1) (Int32.not_le.mpr hi.2) (by omega)
    rw [if_pos hi, nI_clamp (by omega), s4 j hj] at hX
    rcases s3 with s3 | ⟨rfl, -⟩
    · exact jt hX (c_X10_step s3 s1 hj) hJ0
    · omega
  · rw [if_neg hi] at hX
    refine jt hX (c_X10_step_no ?_) hJ0
    rcases s3 with s3 | ⟨rfl, s3⟩
    · rw [s3, sp_in_ci i st (by omega)]
      unfold pm_ci
      rw [if_neg hi]; rfl
    · rw [s3]
      refine decide_eq_false (fun z => ?_)
      have z1 := z.1
      have z2 := z.2
      rw [Int32.le_iff_toInt_le] at z1 z2
      have e1 : (0 : Int32).toInt = 0 := rfl
      have e2 : ((-9 : Int32) - 1).toInt = -10 := by decide
      omega
