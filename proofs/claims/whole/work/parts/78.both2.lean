theorem jt2 {sc : pm_C} {h : pm_H} {xi : Nat → Int32} {xl : Nat → Int64} {xc : Nat → Option Nat} {XA : Nat → Nat → Int32} {XB : Nat → Nat → Int64} {mi : Nat → Int32} {ml : Nat → Int64} {A : Nat → Nat → Int32} {B : Nat → Nat → Int64} {eX eM : pm_E} {as : List Value} {P : Option Value → pm_H → Prop} (hJ : jJ sc h xi xl xc XA mi ml A) (hX : pm_Cl eX (.ref 1 :: as) (pmX (pmM h mi ml A B) xi xl xc XA XB) P) (hk : ∀ v h1, P v h1 → ∃ x xi' xl' xc' XA' XB', v = some (.int x) ∧ h1 = pmX (pmM h mi ml A B) xi' xl' xc' XA' XB' ∧ ∃ Q, pm_Cl eM (.ref 44 :: as) (pmM (pmX h xi' xl' xc' XA' XB') mi ml A B) Q ∧ ∀ v2 h2, Q v2 h2 → v2 = some (.int x) ∧ JJ sc h2) : jT sc eX eM as (pmM (pmX h xi xl xc XA XB) mi ml A B) := by
  refine ⟨_, by rw [pmX_M]; exact hX, ?_⟩
  intro v h1 hP
  obtain ⟨x, xi', xl', xc', XA', XB', rfl, rfl, Q, hM, hQ⟩ := hk v h1 hP
  obtain ⟨cn9, C9, hx9, hm9, hh9, hsc9⟩ := hJ.1
  exact ⟨x, rfl, hsc9, ⟨_, rfl⟩, Q, by rw [← pmX_M]; exact hM, hQ⟩
theorem j_C_new {sc : pm_C} {h : pm_H} {xi : Nat → Int32} {xc : Nat → Option Nat} {mi : Nat → Int32} {A : Nat → Nat → Int32} {cn kd n k f lo hi : Nat} {C : Nat → sp_Cs} {c : pm_C} {a1 a2 a3 a4 a5 a6 : Int32} (hx : x_CC h xi xc cn C) (hm : m_CC mi A cn C) (hh : h.1 = 68 + cn) (hsc : h.2 0 = some sc) (hcn : cn < 10) (hcs : pm_cs (pm_nw h c) (68 + cn) kd n k f lo hi) (hms : m_cas (m_pA A cn a1 a2 a3 a4 a5 a6) cn kd n k f lo hi) : j_C sc (pm_nw h c) (upd xi 0 (nI (cn + 1))) (va_up xc cn (some (68 + cn))) (upd mi 1 (nI (cn + 1))) (m_pA A cn a1 a2 a3 a4 a5 a6) := by
  refine ⟨cn + 1, fun j => if j = cn then (kd, n, k, f, lo, hi) else C j, ⟨rfl, by omega, fun j hj => ?_⟩, ⟨rfl, by omega, fun j hj => ?_⟩, by show h.1 + 1 = _; omega, (if_neg (by omega)).trans hsc⟩
  · by_cases e : j = cn
    · subst e
      refine ⟨if_pos rfl, ?_⟩
      simp only [if_true]
      exact hcs
    · obtain ⟨p1, p2⟩ := hx.2.2 j (by omega)
      refine ⟨(if_neg e).trans p1, ?_⟩
      simp only [if_neg e]
      have e2 : (pm_nw h c).2 (68 + j) = h.2 (68 + j) := if_neg (by omega)
      unfold pm_cs at p2 ⊢
      rw [e2]
      exact p2
  · by_cases e : j = cn
    · subst e
      unfold m_Cs
      simp only [if_true]
      exact hms
    · have p := hm.2.2 j (by omega)
      unfold m_Cs at p ⊢
      simp only [if_neg e]
      have u : ∀ (g : Nat → Int32) (x : Int32), upd g cn x j = g j := fun g x => if_neg e
      unfold m_cas m_sk at p ⊢
      have e46 : m_pA A cn a1 a2 a3 a4 a5 a6 46 j = A 46 j := u _ _
      have e47 : m_pA A cn a1 a2 a3 a4 a5 a6 47 j = A 47 j := u _ _
      have e48 : m_pA A cn a1 a2 a3 a4 a5 a6 48 j = A 48 j := u _ _
      have e49 : m_pA A cn a1 a2 a3 a4 a5 a6 49 j = A 49 j := u _ _
      have e50 : m_pA A cn a1 a2 a3 a4 a5 a6 50 j = A 50 j := u _ _
      have e51 : m_pA A cn a1 a2 a3 a4 a5 a6 51 j = A 51 j := u _ _
      rw [e46, e47, e48, e49, e50, e51]
      exact p
theorem m_pA_at {A : Nat → Nat → Int32} {cn : Nat} {a1 a2 a3 a4 a5 a6 : Int32} : m_pA A cn a1 a2 a3 a4 a5 a6 46 cn = a1 ∧ m_pA A cn a1 a2 a3 a4 a5 a6 47 cn = a2 ∧ m_pA A cn a1 a2 a3 a4 a5 a6 48 cn = a3 ∧ m_pA A cn a1 a2 a3 a4 a5 a6 49 cn = vp_nar .boolean a4 ∧ m_pA A cn a1 a2 a3 a4 a5 a6 50 cn = a5 ∧ m_pA A cn a1 a2 a3 a4 a5 a6 51 cn = a6 := ⟨if_pos rfl, if_pos rfl, if_pos rfl, if_pos rfl, if_pos rfl, if_pos rfl⟩
theorem pm_nw_at {h : pm_H} {c : pm_C} {a : Nat} (e : h.1 = a) : (pm_nw h c).2 a = some c := if_pos e.symm
set_option maxRecDepth 10000 in
set_option maxHeartbeats 4000000 in
theorem j_caster0 {sc : pm_C} {H : pm_H}  (hJJ : JJ sc H) : jT sc e_X9_caster e_X10_caster [.int (nI 0)] H := by
  obtain ⟨h, xi, xl, xc, XA, XB, mi, ml, A, B, rfl, hJ⟩ := hJJ
  have hJ0 := hJ
  obtain ⟨hC, hF, hR, hN, hA, hS⟩ := hJ
  obtain ⟨cn, C, hx, hm, hh, hsc⟩ := hC
  by_cases e : cn = 10
  · subst e
    exact jt (c_X9_caster_full0 hx.1) (c_X10_caster_full0 hm.1) hJ0
  · have hcn : cn < 10 := by have := hx.2.1; omega
    have hX := c_X9_caster0 (h := pmM h mi ml A B) (xl := xl) (xc := xc) (XA := XA) (XB := XB) hx.1 hcn hh
    rw [pmM_nw (by omega)] at hX
    refine jt hX (c_X10_caster0 hm.1 hcn) ⟨j_C_new (kd := 0) (n := 0) (k := 0) (f := 0) (lo := 0) (hi := 0) hx hm hh hsc hcn ?_ ?_, j_F_c hF (fun r hr => rfl) rfl, j_R_c hR (fun r hr => by first | rfl | (simp only [upd, va_up]; repeat (rw [if_neg (by omega)]))) (fun r hr => rfl) rfl rfl, hN, hA, hS⟩
    · exact Or.inl ⟨rfl, pm_nw_at hh⟩
    · exact ⟨m_pA_at.1, Or.inl ⟨by decide, m_pA_at.2.1, m_pA_at.2.2.1⟩⟩
set_option maxRecDepth 10000 in
set_option maxHeartbeats 4000000 in
theorem j_caster1 {sc : pm_C} {H : pm_H}  (hJJ : JJ sc H) : jT sc e_X9_caster e_X10_caster [.int (nI 1)] H := by
  obtain ⟨h, xi, xl, xc, XA, XB, mi, ml, A, B, rfl, hJ⟩ := hJJ
  have hJ0 := hJ
  obtain ⟨hC, hF, hR, hN, hA, hS⟩ := hJ
  obtain ⟨cn, C, hx, hm, hh, hsc⟩ := hC
  by_cases e : cn = 10
  · subst e
    exact jt (c_X9_caster_full1 hx.1) (c_X10_caster_full1 hm.1) hJ0
  · have hcn : cn < 10 := by have := hx.2.1; omega
    have hX := c_X9_caster1 (h := pmM h mi ml A B) (xl := xl) (xc := xc) (XA := XA) (XB := XB) hx.1 hcn hh
    rw [pmM_nw (by omega)] at hX
    refine jt hX (c_X10_caster1 hm.1 hcn) ⟨j_C_new (kd := 2) (n := 0) (k := 0) (f := 0) (lo := 0) (hi := 0) hx hm hh hsc hcn ?_ ?_, j_F_c hF (fun r hr => rfl) rfl, j_R_c hR (fun r hr => by first | rfl | (simp only [upd, va_up]; repeat (rw [if_neg (by omega)]))) (fun r hr => rfl) rfl rfl, hN, hA, hS⟩
    · exact Or.inr (Or.inl ⟨rfl, pm_nw_at hh⟩)
    · exact ⟨m_pA_at.1, Or.inl ⟨by decide, m_pA_at.2.1, m_pA_at.2.2.1⟩⟩
theorem j_val {n k : Int32} : (sp_in n 4 60 && sp_in k 2 8) = decide (4 ≤ n ∧ n ≤ 60 ∧ 2 ≤ k ∧ k ≤ 8) := by
  unfold sp_in
  by_cases h1 : 4 ≤ n ∧ n ≤ 60 <;> by_cases h2 : 2 ≤ k ∧ k ≤ 8 <;> simp [h1, h2, ← and_assoc]
theorem m_nb {f : Nat} (hf : f ≤ 1) : vp_nar .boolean (nI f) = nI f := by
  rcases (show f = 0 ∨ f = 1 by omega) with rfl | rfl <;> rfl
set_option maxRecDepth 10000 in
set_option maxHeartbeats 4000000 in
theorem j_stalks {sc : pm_C} {H : pm_H} {n k : Int32} {f : Nat} (hf : f ≤ 1) (hJJ : JJ sc H) : jT sc e_X9_stalks e_X10_stalks [.int n, .int k, .int (nI f)] H := by
  obtain ⟨h, xi, xl, xc, XA, XB, mi, ml, A, B, rfl, hJ⟩ := hJJ
  have hJ0 := hJ
  obtain ⟨hC, hF, hR, hN, hA, hS⟩ := hJ
  obtain ⟨cn, C, hx, hm, hh, hsc⟩ := hC
  by_cases hv : 4 ≤ n ∧ n ≤ 60 ∧ 2 ≤ k ∧ k ≤ 8
  · have hb : (sp_in n 4 60 && sp_in k 2 8) = true := by rw [j_val]; exact decide_eq_true hv
    by_cases e : cn = 10
    · subst e
      exact jt (c_X9_stalks_full hv hx.1) (c_X10_stalks_full hm.1 hb) hJ0
    · have hcn : cn < 10 := by have := hx.2.1; omega
      obtain ⟨n, n1, n2, rfl⟩ := sp_in_nat (lo := 4) (hi := 60) (by decide) (by decide) (decide_eq_true ⟨hv.1, hv.2.1⟩)
      obtain ⟨k, k1, k2, rfl⟩ := sp_in_nat (lo := 2) (hi := 8) (by decide) (by decide) (decide_eq_true ⟨hv.2.2.1, hv.2.2.2⟩)
      have hX := c_X9_stalks (h := pmM h mi ml A B) (xl := xl) (xc := xc) (XA := XA) (XB := XB) (lo := 1) (hi := 59) hx.1 hcn hh hf hv
      rw [pmM_nw (by omega)] at hX
      refine jt hX (c_X10_stalks hm.1 hcn hb) ⟨j_C_new (kd := 1) (n := n) (k := k) (f := f) (lo := 1) (hi := 59) hx hm hh hsc hcn ?_ ?_, j_F_c hF (fun r hr => rfl) rfl, j_R_c hR (fun r hr => by first | rfl | (simp only [upd, va_up]; repeat (rw [if_neg (by omega)]))) (fun r hr => rfl) rfl rfl, hN, hA, hS⟩
      · exact Or.inr (Or.inr (Or.inl ⟨rfl, rfl, rfl, ⟨n1, n2, k1, k2, hf, by decide, by decide, by decide⟩, pm_nw_at hh⟩))
      · obtain ⟨q1, q2, q3, q4, q5, q6⟩ := m_pA_at (A := A) (cn := cn) (a1 := 1) (a2 := nI n) (a3 := nI k) (a4 := nI f) (a5 := 1) (a6 := 59)
        exact ⟨q1, Or.inr ⟨Or.inl rfl, n1, n2, q2, ⟨k1, k2, hf, by decide, by decide, by decide, q3, q4.trans (m_nb hf), q5, q6⟩, fun _ => ⟨rfl, rfl⟩⟩⟩
  · have hb : (sp_in n 4 60 && sp_in k 2 8) = false := by rw [j_val]; exact decide_eq_false hv
    exact jt (c_X9_stalks_bad hv) (c_X10_stalks_bad hb) hJ0
set_option maxRecDepth 10000 in
set_option maxHeartbeats 4000000 in
theorem j_thumb {sc : pm_C} {H : pm_H} {n k lo hi : Int32} {f : Nat} (hf : f ≤ 1) (hJJ : JJ sc H) : jT sc e_X9_thumb e_X10_thumb [.int n, .int k, .int (nI f), .int lo, .int hi] H := by
  obtain ⟨h, xi, xl, xc, XA, XB, mi, ml, A, B, rfl, hJ⟩ := hJJ
  have hJ0 := hJ
  obtain ⟨hC, hF, hR, hN, hA, hS⟩ := hJ
  obtain ⟨cn, C, hx, hm, hh, hsc⟩ := hC
  by_cases hv : 4 ≤ n ∧ n ≤ 60 ∧ 2 ≤ k ∧ k ≤ 8
  · have hb : (sp_in n 4 60 && sp_in k 2 8) = true := by rw [j_val]; exact decide_eq_true hv
    by_cases hl : 1 ≤ lo ∧ lo ≤ hi ∧ hi ≤ 59
    · have hb2 : sp_in lo 1 59 = true := decide_eq_true ⟨hl.1, Int32.le_trans hl.2.1 hl.2.2⟩
      have hb3 : sp_in hi lo 59 = true := decide_eq_true hl.2
      by_cases e : cn = 10
      · subst e
        exact jt (c_X9_thumb_full hv hl hx.1) (c_X10_thumb_full hm.1 hb hb2 hb3) hJ0
      · have hcn : cn < 10 := by have := hx.2.1; omega
        obtain ⟨n, n1, n2, rfl⟩ := sp_in_nat (lo := 4) (hi := 60) (by decide) (by decide) (decide_eq_true ⟨hv.1, hv.2.1⟩)
        obtain ⟨k, k1, k2, rfl⟩ := sp_in_nat (lo := 2) (hi := 8) (by decide) (by decide) (decide_eq_true ⟨hv.2.2.1, hv.2.2.2⟩)
        obtain ⟨lo, l1, l2, rfl⟩ := sp_in_nat (lo := 1) (hi := 59) (by decide) (by decide) hb2
        obtain ⟨hi, l3, l4, rfl⟩ := sp_in_nat (lo := lo) (hi := 59) (by omega) (by decide) hb3
        have hX := c_X9_thumb (h := pmM h mi ml A B) (xl := xl) (xc := xc) (XA := XA) (XB := XB) hx.1 hcn hh hf hv l1 l3 l4
        rw [pmM_nw (by omega)] at hX
        refine jt hX (c_X10_thumb hm.1 hcn hb hb2 hb3) ⟨j_C_new (kd := 3) (n := n) (k := k) (f := f) (lo := lo) (hi := hi) hx hm hh hsc hcn ?_ ?_, j_F_c hF (fun r hr => rfl) rfl, j_R_c hR (fun r hr => by first | rfl | (simp only [upd, va_up]; repeat (rw [if_neg (by omega)]))) (fun r hr => rfl) rfl rfl, hN, hA, hS⟩
        · exact Or.inr (Or.inr (Or.inr ⟨rfl, ⟨n1, n2, k1, k2, hf, l1, l3, l4⟩, pm_nw_at hh⟩))
        · obtain ⟨q1, q2, q3, q4, q5, q6⟩ := m_pA_at (A := A) (cn := cn) (a1 := 3) (a2 := nI n) (a3 := nI k) (a4 := nI f) (a5 := nI lo) (a6 := nI hi)
          exact ⟨q1, Or.inr ⟨Or.inr rfl, n1, n2, q2, ⟨k1, k2, hf, l1, l3, l4, q3, q4.trans (m_nb hf), q5, q6⟩, fun h31 => absurd h31 (by decide)⟩⟩
    · have hbb : ((sp_in n 4 60 && sp_in k 2 8) && (sp_in lo 1 59 && sp_in hi lo 59)) = false := by
        rw [hb, Bool.true_and]
        cases h1 : sp_in lo 1 59 with
        | false => rfl
        | true =>
          cases h2 : sp_in hi lo 59 with
          | false => rfl
          | true => exact absurd ⟨(of_decide_eq_true h1).1, (of_decide_eq_true h2).1, (of_decide_eq_true h2).2⟩ hl
      exact jt (c_X9_thumb_bad2 hv hl) (c_X10_thumb_bad hbb) hJ0
  · have hb : (sp_in n 4 60 && sp_in k 2 8) = false := by rw [j_val]; exact decide_eq_false hv
    exact jt (c_X9_thumb_bad1 hv) (c_X10_thumb_bad (by rw [hb]; rfl)) hJ0
set_option maxRecDepth 10000 in
set_option maxHeartbeats 4000000 in
theorem j_drawn {sc : pm_C} {H : pm_H} {c : Int32} {s : Int64} (hJJ : JJ sc H) : jT sc e_X9_drawn e_X10_drawn [.int c, .long s] H := by
  obtain ⟨h, xi, xl, xc, XA, XB, mi, ml, A, B, rfl, hJ⟩ := hJJ
  have hJ0 := hJ
  obtain ⟨hC, hF, hR, hN, hA, hS⟩ := hJ
  obtain ⟨cn, C, hx, hm, hh, hsc⟩ := hC
  cases hci : pm_ci c cn with
  | none => exact jt (c_X9_drawn_n (x_CC_M (ml := ml) (B := B) (mi := mi) (A := A) hx) hci) (c_X10_drawn_n hm hci) hJ0
  | some j =>
    obtain ⟨hj, rfl⟩ := pm_ci_some (Nat.lt_of_le_of_lt hx.2.1 (by decide)) hci
    exact jt (c_X9_drawn (x_CC_M (ml := ml) (B := B) (mi := mi) (A := A) hx) hj) (c_X10_drawn hm hj) ⟨⟨cn, C, hx, hm, hh, hsc⟩, hF, hR, hN, hA, hS⟩
