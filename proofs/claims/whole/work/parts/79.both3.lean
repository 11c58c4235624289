theorem j_C_c {sc : pm_C} {h : pm_H} {xi xi' : Nat → Int32} {xc : Nat → Option Nat} {mi mi' : Nat → Int32} {A A' : Nat → Nat → Int32} (hC : j_C sc h xi xc mi A) (h0 : xi' 0 = xi 0) (h1 : mi' 1 = mi 1) (h2 : ∀ q, 46 ≤ q → q ≤ 51 → A' q = A q) : j_C sc h xi' xc mi' A' := by
  obtain ⟨cn, C, ⟨x1, x2, x3⟩, ⟨m1, m2, m3⟩, hh⟩ := hC
  refine ⟨cn, C, ⟨h0.trans x1, x2, x3⟩, ⟨h1.trans m1, m2, fun j hj => ?_⟩, hh⟩
  have := m3 j hj
  unfold m_Cs m_cas m_sk at this ⊢
  rw [h2 46 (by decide) (by decide), h2 47 (by decide) (by decide), h2 48 (by decide) (by decide), h2 49 (by decide) (by decide), h2 50 (by decide) (by decide), h2 51 (by decide) (by decide)]
  exact this
theorem j_N_c {xi xi' : Nat → Int32} {XA XA' : Nat → Nat → Int32} {mi mi' : Nat → Int32} {A A' : Nat → Nat → Int32} (hN : j_N xi XA mi A) (h0 : xi' 1 = xi 1) (h1 : mi' 0 = mi 0) (h2 : XA' 19 = XA 19) (h3 : A' 45 = A 45) : j_N xi' XA' mi' A' := ⟨by rw [h0, h1]; exact hN.1, fun w hw => by rw [h2, h3]; exact hN.2 w hw⟩
theorem j_S_c {xi xi' : Nat → Int32} {XA XA' : Nat → Nat → Int32} {mi mi' : Nat → Int32} {A A' : Nat → Nat → Int32} (hS : j_S xi XA mi A) (h0 : xi' 2 = xi 2) (h1 : mi' 2 = mi 2) (h2 : XA' 11 = XA 11) (h3 : A' 61 = A 61) : j_S xi' XA' mi' A' := by
  obtain ⟨st, s1, s2, s3, s4⟩ := hS
  exact ⟨st, s1, h0.trans s2, by rw [h1]; exact s3, fun j hj => by rw [h2, h3]; exact s4 j hj⟩
theorem j_F_set {XA X1 A A' : Nat → Nat → Int32} {q : Nat} {s : Nat → Nat} (hq : q < 8) (hF : j_F XA A) (hch : x_ch XA X1 q) (hs : ∀ j, j < 6 → X1 (21 + 2 * q) j = nI (s j)) (hb : ∀ j, j < 6 → 6 ≤ s j ∧ s j ≤ 9) (hA : A' 58 = m_fg (A 58) q (fun j => nI (s j)) 6) : j_F X1 A' := by
  obtain ⟨g, g1, g2⟩ := hF
  refine ⟨fun j => if 6 * q ≤ j ∧ j < 6 * q + 6 then s (j - 6 * q) else g j, fun j hj => ?_, fun p hp j hj => ?_⟩
  · rw [hA]
    unfold m_fg
    by_cases e : 6 * q ≤ j ∧ j < 6 * q + 6
    · rw [if_pos e]
      simp only [if_pos e]
      exact ⟨trivial, hb _ (by omega)⟩
    · rw [if_neg e]
      simp only [if_neg e]
      exact g1 j hj
  · by_cases e : p = q
    · subst e
      simp only [if_pos (show 6 * p ≤ 6 * p + j ∧ 6 * p + j < 6 * p + 6 by omega)]
      rw [show 6 * p + j - 6 * p = j by omega]
      exact hs j hj
    · simp only [if_neg (show ¬ (6 * q ≤ 6 * p + j ∧ 6 * p + j < 6 * q + 6) by omega)]
      rw [hch _ (by omega) (by omega)]
      exact g2 p hp j hj
theorem j_figs {sc : pm_C} {h : pm_H} {xi : Nat → Int32} {xl : Nat → Int64} {xc : Nat → Option Nat} {XA : Nat → Nat → Int32} {XB : Nat → Nat → Int64} {mi : Nat → Int32} {ml : Nat → Int64} {A : Nat → Nat → Int32} {B : Nat → Nat → Int64} {xl' ml' : Nat → Int64} {X1 A' : Nat → Nat → Int32} {q : Nat} (hq : q < 8) (hJ : jJ sc h xi xl xc XA mi ml A) (hch : x_ch XA X1 q) (hF : j_F X1 A') (hA' : ∀ k, k ≠ 58 → k ≠ 59 → A' k = A k) (hl : j_A xl' ml') : jJ sc h xi xl' xc X1 mi ml' A' := by
  obtain ⟨hC, -, hR, hN, hA, hS⟩ := hJ
  exact ⟨j_C_c hC rfl rfl (fun k h1 h2 => hA' k (by omega) (by omega)), hF, j_R_c hR (fun _ _ => rfl) (fun r hr => hch _ (by omega) (by omega)) (hA' 62 (by decide) (by decide)) (hA' 63 (by decide) (by decide)), j_N_c hN rfl rfl (hch 19 (by decide) (by omega)) (hA' 45 (by decide) (by decide)), hl, j_S_c hS rfl rfl (hch 11 (by decide) (by omega)) (hA' 61 (by decide) (by decide))⟩
theorem j_sin {f : Int32} {m : Nat} (hm : m < 2 ^ 31) (h : sp_in f 0 (nI m) = true) : ∃ p, p ≤ m ∧ f = nI p := sp_in_0 hm h
theorem upd_self (f : Nat → Int32) (i : Nat) : upd f i (f i) = f := m_uu0 rfl
set_option maxRecDepth 10000 in
set_option maxHeartbeats 4000000 in
theorem j_set {sc : pm_C} {H : pm_H} {f i v : Int32} (hJJ : JJ sc H) : jT sc e_X9_set e_X10_set [.int f, .int i, .int v] H := by
  obtain ⟨h, xi, xl, xc, XA, XB, mi, ml, A, B, rfl, hJ⟩ := hJJ
  have hJ0 := hJ
  obtain ⟨hC, hF, hR, hN, hA, hS⟩ := hJ
  cases hf : sp_in f 0 7 with
  | false => exact jt (c_X9_set_bad1 hf) (c_X10_set_bad1 hf) hJ0
  | true =>
    obtain ⟨p, hp, rfl⟩ := sp_in_0 (hi := 7) (by decide) hf
    have hp : p < 8 := by omega
    cases hv : sp_in v 6 9 with
    | false => exact jt (c_X9_set_bad2 hp hv) (c_X10_set_bad2 hf hv) hJ0
    | true =>
      cases hi : sp_in i 0 5 with
      | false => exact jt (c_X9_set_far hp hv hi) (c_X10_set_far hf hv hi) (j_meet (B := B) (XB := XB) (w := 2) (by decide) hJ0)
      | true =>
        obtain ⟨q, hq, rfl⟩ := sp_in_0 (hi := 5) (by decide) hi
        have hq : q < 6 := by omega
        obtain ⟨w, w1, w2, rfl⟩ := sp_in_nat (lo := 6) (hi := 9) (by decide) (by decide) hv
        obtain ⟨g, g1, g2⟩ := hF
        have hX := c_X9_set (h := pmM h mi ml A B) (xi := xi) (xl := xl) (xc := xc) (XA := XA) (XB := XB) hp hq ⟨w1, w2⟩
        have eA : XA (21 + 2 * p) q = A 58 (6 * p + q) := by rw [g2 p hp q hq, (g1 (6 * p + q) (by omega)).1]
        rw [show (Value.int (XA (21 + 2 * p) q)) = .int (A 58 (6 * p + q)) from congrArg Value.int eA] at hX
        refine jt hX (c_X10_set hp hq ⟨w1, w2⟩) (j_figs (XB := XB) (B := B) hp hJ0 (fun k h5 hk => if_neg hk) ⟨fun j => if j = 6 * p + q then w else g j, fun j hj => ?_, fun p2 hp2 j hj => ?_⟩ (fun k h8 h9 => if_neg h8) hA)
        · show upd (A 58) (6 * p + q) (nI w) j = _ ∧ _
          simp only [upd]
          by_cases e : j = 6 * p + q
          · simp only [if_pos e]; exact ⟨trivial, w1, w2⟩
          · simp only [if_neg e]; exact g1 j hj
        · by_cases e : p2 = p
          · subst e
            rw [show va_up XA (21 + 2 * p2) (upd (XA (21 + 2 * p2)) q (nI w)) (21 + 2 * p2) = upd (XA (21 + 2 * p2)) q (nI w) from if_pos rfl]
            simp only [upd]
            by_cases e2 : j = q
            · subst e2; simp
            · simp only [if_neg e2, if_neg (show ¬ 6 * p2 + j = 6 * p2 + q by omega)]; exact g2 p2 hp2 j hj
          · rw [show va_up XA (21 + 2 * p) (upd (XA (21 + 2 * p)) q (nI w)) (21 + 2 * p2) = XA (21 + 2 * p2) from if_neg (by omega)]
            simp only [if_neg (show ¬ 6 * p2 + j = 6 * p + q by omega)]
            exact g2 p2 hp2 j hj
set_option maxRecDepth 10000 in
set_option maxHeartbeats 4000000 in
theorem j_get {sc : pm_C} {H : pm_H} {f i : Int32} (hJJ : JJ sc H) : jT sc e_X9_get e_X10_get [.int f, .int i] H := by
  obtain ⟨h, xi, xl, xc, XA, XB, mi, ml, A, B, rfl, hJ⟩ := hJJ
  have hJ0 := hJ
  obtain ⟨hC, hF, hR, hN, hA, hS⟩ := hJ
  cases hf : sp_in f 0 7 with
  | false => exact jt (c_X9_get_bad hf) (c_X10_get_bad hf) hJ0
  | true =>
    obtain ⟨p, hp, rfl⟩ := sp_in_0 (hi := 7) (by decide) hf
    have hp : p < 8 := by omega
    cases hi : sp_in i 0 5 with
    | false => exact jt (c_X9_get_far hp hi) (c_X10_get_far hf hi) (j_meet (B := B) (XB := XB) (w := 2) (by decide) hJ0)
    | true =>
      obtain ⟨q, hq, rfl⟩ := sp_in_0 (hi := 5) (by decide) hi
      have hq : q < 6 := by omega
      obtain ⟨g, g1, g2⟩ := hF
      have hX := c_X9_get (h := pmM h mi ml A B) (xi := xi) (xl := xl) (xc := xc) (XA := XA) (XB := XB) hp hq
      have eA : XA (21 + 2 * p) q = A 58 (6 * p + q) := by rw [g2 p hp q hq, (g1 (6 * p + q) (by omega)).1]
      rw [eA] at hX
      exact jt hX (c_X10_get hp hq) hJ0
set_option maxRecDepth 10000 in
set_option maxHeartbeats 4000000 in
theorem j_number {sc : pm_C} {H : pm_H} {f : Int32} (hJJ : JJ sc H) : jT sc e_X9_number e_X10_number [.int f] H := by
  obtain ⟨h, xi, xl, xc, XA, XB, mi, ml, A, B, rfl, hJ⟩ := hJJ
  have hJ0 := hJ
  obtain ⟨hC, hF, hR, hN, hA, hS⟩ := hJ
  cases hf : sp_in f 0 7 with
  | false => exact jt (c_X9_number_bad hf) (c_X10_number_bad hf) hJ0
  | true =>
    obtain ⟨p, hp, rfl⟩ := sp_in_0 (hi := 7) (by decide) hf
    have hp : p < 8 := by omega
    obtain ⟨g, g1, g2⟩ := hF
    exact jt (c_X9_number (g := fun z => g (6 * p + z)) hp (g2 p hp) (fun j hj => (g1 _ (by omega)).2)) (c_X10_number hp g1) hJ0
set_option maxRecDepth 10000 in
set_option maxHeartbeats 4000000 in
theorem j_act {sc : pm_C} {H : pm_H} {f t u : Int32} (hJJ : JJ sc H) : jT sc e_X9_act e_X10_act [.int f, .int t, .int u] H := by
  obtain ⟨h, xi, xl, xc, XA, XB, mi, ml, A, B, rfl, hJ⟩ := hJJ
  have hJ0 := hJ
  obtain ⟨hC, hF, hR, hN, hA, hS⟩ := hJ
  cases hf : sp_in f 0 7 with
  | false =>
    cases hu : sp_in u 0 7 with
    | false => exact jt (c_X9_act_bad1a hf hu) (c_X10_act_bad1 hf) hJ0
    | true =>
      obtain ⟨q, hq, rfl⟩ := sp_in_0 (hi := 7) (by decide) hu
      exact jt (c_X9_act_bad1b hf (by omega)) (c_X10_act_bad1 hf) hJ0
  | true =>
    obtain ⟨p, hp, rfl⟩ := sp_in_0 (hi := 7) (by decide) hf
    have hp : p < 8 := by omega
    cases hu : sp_in u 0 7 with
    | false => exact jt (c_X9_act_bad2 hp hu) (c_X10_act_bad2 hf hu) hJ0
    | true =>
      obtain ⟨q, hq, rfl⟩ := sp_in_0 (hi := 7) (by decide) hu
      have hq : q < 8 := by omega
      cases ht : sp_in t 0 3 with
      | false => exact jt (c_X9_act_bad3 hp hq ht) (c_X10_act_bad3 hf hu ht) hJ0
      | true =>
        obtain ⟨t, ht3, rfl⟩ := sp_in_0 (hi := 3) (by decide) ht
        obtain ⟨g, g1, g2⟩ := hF
        have hb : ∀ j, j < 6 → 6 ≤ (fun z => g (6 * p + z)) j ∧ (fun z => g (6 * p + z)) j ≤ 9 := fun j hj => (g1 _ (by omega)).2
        refine jt2 hJ0 (c_X9_act (g := fun z => g (6 * p + z)) hp hq (by omega) (g2 p hp) hb) ?_
        rintro v h1 ⟨rfl, X1, rfl, hch, hX1⟩
        refine ⟨_, xi, xl, xc, X1, XB, rfl, rfl, _, c_X10_act hp hq (by omega) g1, ?_⟩
        rintro v2 h2 ⟨rfl, rfl⟩
        refine ⟨rfl, _, _, _, _, _, _, _, _, _, _, rfl, j_figs (XB := XB) (B := B) hq hJ0 hch (j_F_set hq ⟨g, g1, g2⟩ hch hX1 (fun j hj => sp_act_in hb hj) rfl) (fun k h8 h9 => (if_neg h8).trans (if_neg h9)) hA⟩
set_option maxRecDepth 10000 in
set_option maxHeartbeats 4000000 in
theorem j_draw {sc : pm_C} {H : pm_H} {f c : Int32} {s : Int64} (hJJ : JJ sc H) : jT sc e_X9_draw e_X10_draw [.int f, .int c, .long s] H := by
  obtain ⟨h, xi, xl, xc, XA, XB, mi, ml, A, B, rfl, hJ⟩ := hJJ
  have hJ0 := hJ
  obtain ⟨hC, hF, hR, hN, hA, hS⟩ := hJ
  obtain ⟨cn, C, hx, hm, hh, hsc⟩ := hC
  cases hf : sp_in f 0 7 with
  | false =>
    cases hci : pm_ci c cn with
    | none => exact jt (c_X9_draw_bad1 (x_CC_M (ml := ml) (B := B) (mi := mi) (A := A) hx) hf hci) (c_X10_draw_bad1 hf) hJ0
    | some j =>
      obtain ⟨hj, rfl⟩ := pm_ci_some (Nat.lt_of_le_of_lt hx.2.1 (by decide)) hci
      exact jt (c_X9_draw_bad1b (x_CC_M (ml := ml) (B := B) (mi := mi) (A := A) hx) hf hj) (c_X10_draw_bad1 hf) hJ0
  | true =>
    obtain ⟨p, hp, rfl⟩ := sp_in_0 (hi := 7) (by decide) hf
    have hp : p < 8 := by omega
    cases hci : pm_ci c cn with
    | none => exact jt (c_X9_draw_bad2 (x_CC_M (ml := ml) (B := B) (mi := mi) (A := A) hx) hp hci) (c_X10_draw_bad2 hm.1 hm.2.1 hf hci) hJ0
    | some j =>
      obtain ⟨hj, rfl⟩ := pm_ci_some (Nat.lt_of_le_of_lt hx.2.1 (by decide)) hci
      rcases (show sp_fit (sp_ln (C j).1 (C j).2.1 (C j).2.2.1 (C j).2.2.2.1 (C j).2.2.2.2.1 (C j).2.2.2.2.2 s) 6 = 0 ∨ sp_fit (sp_ln (C j).1 (C j).2.1 (C j).2.2.1 (C j).2.2.2.1 (C j).2.2.2.2.1 (C j).2.2.2.2.2 s) 6 = 1 by have := sp_fit_le (sp_ln (C j).1 (C j).2.1 (C j).2.2.1 (C j).2.2.2.1 (C j).2.2.2.2.1 (C j).2.2.2.2.2 s) 6; omega) with hfit | hfit
      · refine jt (c_X9_draw_no (x_CC_M (ml := ml) (B := B) (mi := mi) (A := A) hx) hp hj hfit) (c_X10_draw_no hp hm.1 hm.2.1 hj (hm.2.2 j hj) hfit) ⟨⟨cn, C, hx, hm, hh, hsc⟩, j_F_c hF (fun r hr => by first | rfl | (simp only [upd, va_up]; repeat (rw [if_neg (by omega)]))) rfl, j_R_c hR (fun _ _ => rfl) (fun r hr => by first | rfl | (simp only [upd, va_up]; repeat (rw [if_neg (by omega)]))) rfl rfl, hN, hA, hS⟩
      · refine jt2 hJ0 (c_X9_draw (x_CC_M (ml := ml) (B := B) (mi := mi) (A := A) hx) hp hj hfit) ?_
        rintro v h1 ⟨rfl, X1, rfl, hch, hX1⟩
        refine ⟨_, xi, _, xc, X1, XB, rfl, rfl, _, c_X10_draw hp hm.1 hm.2.1 hj (hm.2.2 j hj) hfit, ?_⟩
        rintro v2 h2 ⟨rfl, rfl⟩
        exact ⟨rfl, _, _, _, _, _, _, _, _, _, _, rfl, j_figs (XB := XB) (B := B) hp hJ0 hch (j_F_set hp hF hch hX1 (fun i hid => sp_fit_all hfit i hid) rfl) (fun k h8 h9 => (if_neg h8).trans (if_neg h9)) hA⟩
