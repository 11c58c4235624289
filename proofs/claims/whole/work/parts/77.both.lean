/-! the two sides: what is the same in the room and in the reference -/
def j_C (sc : pm_C) (h : pm_H) (xi : Nat → Int32) (xc : Nat → Option Nat) (mi : Nat → Int32) (A : Nat → Nat → Int32) : Prop := ∃ (cn : Nat) (C : Nat → sp_Cs), x_CC h xi xc cn C ∧ m_CC mi A cn C ∧ h.1 = 68 + cn ∧ h.2 0 = some sc
def j_F (XA A : Nat → Nat → Int32) : Prop := ∃ g : Nat → Nat, (∀ j, j < 48 → A 58 j = nI (g j) ∧ 6 ≤ g j ∧ g j ≤ 9) ∧ ∀ p, p < 8 → ∀ j, j < 6 → XA (21 + 2 * p) j = nI (g (6 * p + j))
def j_R (xi : Nat → Int32) (XA A : Nat → Nat → Int32) : Prop := ∃ rz : Nat → Option Nat, x_rz xi rz ∧ m_rz A rz ∧ (∀ r, r < 4 → ∀ q, q < 64 → XA (37 + 2 * r) q = A 63 (64 * r + q)) ∧ ∀ r, r < 4 → ∀ q, vp_nar .byte (XA (37 + 2 * r) q) = XA (37 + 2 * r) q
def j_N (xi : Nat → Int32) (XA : Nat → Nat → Int32) (mi : Nat → Int32) (A : Nat → Nat → Int32) : Prop := xi 1 = mi 0 ∧ ∀ w, w < 6 → XA 19 w = A 45 w
def j_A (xl ml : Nat → Int64) : Prop := xl 0 = ml 0 ∧ xl 1 = ml 1 ∧ xl 2 = ml 2
def j_S (xi : Nat → Int32) (XA : Nat → Nat → Int32) (mi : Nat → Int32) (A : Nat → Nat → Int32) : Prop := ∃ st, st ≤ 64 ∧ xi 2 = nI st ∧ (mi 2 = nI st ∨ (st = 0 ∧ mi 2 = -9)) ∧ ∀ j, j < st → XA 11 (st - 1 - j) = A 61 j
def jJ (sc : pm_C) (h : pm_H) (xi : Nat → Int32) (xl : Nat → Int64) (xc : Nat → Option Nat) (XA : Nat → Nat → Int32) (mi : Nat → Int32) (ml : Nat → Int64) (A : Nat → Nat → Int32) : Prop := j_C sc h xi xc mi A ∧ j_F XA A ∧ j_R xi XA A ∧ j_N xi XA mi A ∧ j_A xl ml ∧ j_S xi XA mi A
def JJ (sc : pm_C) (H : pm_H) : Prop := ∃ h xi xl xc XA XB mi ml A B, H = pmM (pmX h xi xl xc XA XB) mi ml A B ∧ jJ sc h xi xl xc XA mi ml A
/-- one call of the law on both sides: the same answer, and the same again behind it -/
def jT (sc : pm_C) (eX eM : pm_E) (as : List Value) (H : pm_H) : Prop := ∃ P, pm_Cl eX (.ref 1 :: as) H P ∧ ∀ v h1, P v h1 → ∃ x, v = some (.int x) ∧ h1.2 0 = some sc ∧ (∃ fs, h1.2 44 = some (.inr (10, fs))) ∧ ∃ Q, pm_Cl eM (.ref 44 :: as) h1 Q ∧ ∀ v2 h2, Q v2 h2 → v2 = some (.int x) ∧ JJ sc h2
def jTl (sc : pm_C) (eX eM : pm_E) (as : List Value) (H : pm_H) : Prop := ∃ P, pm_Cl eX (.ref 1 :: as) H P ∧ ∀ v h1, P v h1 → ∃ x, v = some (.long x) ∧ h1.2 0 = some sc ∧ (∃ fs, h1.2 44 = some (.inr (10, fs))) ∧ ∃ Q, pm_Cl eM (.ref 44 :: as) h1 Q ∧ ∀ v2 h2, Q v2 h2 → v2 = some (.long x) ∧ JJ sc h2
theorem pm_cs_M {h : pm_H} {mi : Nat → Int32} {ml : Nat → Int64} {A : Nat → Nat → Int32} {B : Nat → Nat → Int64} {a kd n k f lo hi : Nat} (ha : 68 ≤ a) : pm_cs (pmM h mi ml A B) a kd n k f lo hi ↔ pm_cs h a kd n k f lo hi := by
  have e : (pmM h mi ml A B).2 a = h.2 a := by
    show (if a = 44 then _ else if 45 ≤ a ∧ a ≤ 67 then _ else h.2 a) = _
    rw [if_neg (by omega), if_neg (by omega)]
  unfold pm_cs
  rw [e]
theorem pmM_nw {h : pm_H} {mi : Nat → Int32} {ml : Nat → Int64} {A : Nat → Nat → Int32} {B : Nat → Nat → Int64} {c : pm_C} (hh : 68 ≤ h.1) : pm_nw (pmM h mi ml A B) c = pmM (pm_nw h c) mi ml A B := by
  refine Prod.ext rfl (funext fun q => ?_)
  show (if q = h.1 then some c else if q = 44 then _ else if 45 ≤ q ∧ q ≤ 67 then _ else h.2 q) = if q = 44 then _ else if 45 ≤ q ∧ q ≤ 67 then _ else if q = h.1 then some c else h.2 q
  by_cases e : q = h.1
  · rw [if_pos e, if_neg (by omega), if_neg (by omega), if_pos e]
  · rw [if_neg e, if_neg e]
theorem x_CC_M {h : pm_H} {xi : Nat → Int32} {xc : Nat → Option Nat} {cn : Nat} {C : Nat → sp_Cs} {mi : Nat → Int32} {ml : Nat → Int64} {A : Nat → Nat → Int32} {B : Nat → Nat → Int64} (hC : x_CC h xi xc cn C) : x_CC (pmM h mi ml A B) xi xc cn C := ⟨hC.1, hC.2.1, fun j hj => ⟨(hC.2.2 j hj).1, (pm_cs_M (by omega)).mpr (hC.2.2 j hj).2⟩⟩
theorem jt {sc : pm_C} {h : pm_H} {xi : Nat → Int32} {xl : Nat → Int64} {xc : Nat → Option Nat} {XA : Nat → Nat → Int32} {XB : Nat → Nat → Int64} {mi : Nat → Int32} {ml : Nat → Int64} {A : Nat → Nat → Int32} {B : Nat → Nat → Int64} {h' : pm_H} {xi' : Nat → Int32} {xl' : Nat → Int64} {xc' : Nat → Option Nat} {XA' : Nat → Nat → Int32} {XB' : Nat → Nat → Int64} {mi' : Nat → Int32} {ml' : Nat → Int64} {A' : Nat → Nat → Int32} {B' : Nat → Nat → Int64} {eX eM : pm_E} {as : List Value} {x : Int32} (hX : pm_Cv eX (.ref 1 :: as) (pmX (pmM h mi ml A B) xi xl xc XA XB) (.int x) (pmX (pmM h' mi ml A B) xi' xl' xc' XA' XB')) (hM : pm_Cv eM (.ref 44 :: as) (pmM (pmX h' xi' xl' xc' XA' XB') mi ml A B) (.int x) (pmM (pmX h' xi' xl' xc' XA' XB') mi' ml' A' B')) (hJ : jJ sc h' xi' xl' xc' XA' mi' ml' A') : jT sc eX eM as (pmM (pmX h xi xl xc XA XB) mi ml A B) := by
  refine ⟨_, by rw [pmX_M]; exact hX, ?_⟩
  rintro v h1 ⟨rfl, rfl⟩
  obtain ⟨cn9, C9, hx9, hm9, hh9, hsc9⟩ := hJ.1
  refine ⟨x, rfl, hsc9, ⟨_, rfl⟩, _, by rw [← pmX_M]; exact hM, ?_⟩
  rintro v2 h2 ⟨rfl, rfl⟩
  exact ⟨rfl, ⟨_, _, _, _, _, _, _, _, _, _, rfl, hJ⟩⟩
theorem jtl {sc : pm_C} {h : pm_H} {xi : Nat → Int32} {xl : Nat → Int64} {xc : Nat → Option Nat} {XA : Nat → Nat → Int32} {XB : Nat → Nat → Int64} {mi : Nat → Int32} {ml : Nat → Int64} {A : Nat → Nat → Int32} {B : Nat → Nat → Int64} {eX eM : pm_E} {as : List Value} {x : Int64} (hX : pm_Cv eX (.ref 1 :: as) (pmX (pmM h mi ml A B) xi xl xc XA XB) (.long x) (pmX (pmM h mi ml A B) xi xl xc XA XB)) (hM : pm_Cv eM (.ref 44 :: as) (pmM (pmX h xi xl xc XA XB) mi ml A B) (.long x) (pmM (pmX h xi xl xc XA XB) mi ml A B)) (hJ : jJ sc h xi xl xc XA mi ml A) : jTl sc eX eM as (pmM (pmX h xi xl xc XA XB) mi ml A B) := by
  refine ⟨_, by rw [pmX_M]; exact hX, ?_⟩
  rintro v h1 ⟨rfl, rfl⟩
  obtain ⟨cn9, C9, hx9, hm9, hh9, hsc9⟩ := hJ.1
  refine ⟨x, rfl, hsc9, ⟨_, rfl⟩, _, by rw [← pmX_M]; exact hM, ?_⟩
  rintro v2 h2 ⟨rfl, rfl⟩
  exact ⟨rfl, ⟨_, _, _, _, _, _, _, _, _, _, rfl, hJ⟩⟩
theorem j_F_c {XA A XA' A' : Nat → Nat → Int32} (hF : j_F XA A) (h1 : ∀ p, p < 8 → XA' (21 + 2 * p) = XA (21 + 2 * p)) (h2 : A' 58 = A 58) : j_F XA' A' := by
  obtain ⟨g, g1, g2⟩ := hF
  exact ⟨g, fun j hj => by rw [h2]; exact g1 j hj, fun p hp j hj => by rw [h1 p hp]; exact g2 p hp j hj⟩
theorem j_R_c {xi xi' : Nat → Int32} {XA A XA' A' : Nat → Nat → Int32} (hR : j_R xi XA A) (h0 : ∀ r, r < 4 → xi' (3 + r) = xi (3 + r)) (h1 : ∀ r, r < 4 → XA' (37 + 2 * r) = XA (37 + 2 * r)) (h2 : A' 62 = A 62) (h3 : A' 63 = A 63) : j_R xi' XA' A' := by
  obtain ⟨rz, r1, r2, r3, r4⟩ := hR
  refine ⟨rz, fun r hr => ?_, fun r hr => ?_, fun r hr q hq => by rw [h1 r hr, h3]; exact r3 r hr q hq, fun r hr q => by rw [h1 r hr]; exact r4 r hr q⟩
  · rw [h0 r hr]; exact r1 r hr
  · rw [h2]; exact r2 r hr
theorem j_meet {sc : pm_C} {h : pm_H} {xi : Nat → Int32} {xl : Nat → Int64} {xc : Nat → Option Nat} {XA : Nat → Nat → Int32} {XB : Nat → Nat → Int64} {mi : Nat → Int32} {ml : Nat → Int64} {A : Nat → Nat → Int32} {B : Nat → Nat → Int64} {w : Nat} (hw : w < 6) (hJ : jJ sc h xi xl xc XA mi ml A) : jJ sc h (upd xi 1 (nI w)) xl xc (va_up XA 19 (upd (XA 19) w (XA 19 w + 1))) (upd mi 0 (nI w)) ml (va_up A 45 (upd (A 45) w (A 45 w + 1))) := by
  obtain ⟨hC, hF, hR, hN, hA, hS⟩ := hJ
  refine ⟨hC, j_F_c hF (fun r hr => by first | rfl | (simp only [upd, va_up]; repeat (rw [if_neg (by omega)]))) rfl, j_R_c hR (fun r hr => by first | rfl | (simp only [upd, va_up]; repeat (rw [if_neg (by omega)]))) (fun r hr => by first | rfl | (simp only [upd, va_up]; repeat (rw [if_neg (by omega)]))) rfl rfl, ⟨rfl, fun v hv => ?_⟩, hA, hS⟩
  show upd (XA 19) w (XA 19 w + 1) v = upd (A 45) w (A 45 w + 1) v
  simp only [upd]
  rw [hN.2 w hw, hN.2 v hv]
theorem sp_told_w {o : Option sp_Cs} {w : Int32} {v : Nat} (h : sp_told o w = .inr v) : v < 6 := by
  cases o with
  | none => cases h
  | some q =>
    simp only [sp_told] at h
    split at h <;> cases h
theorem sp_mark_w {o : Option sp_Cs} {w : Int32} {v : Nat} (h : sp_mark o w = .inr v) : v < 6 := by
  cases o with
  | none => cases h
  | some q =>
    simp only [sp_mark] at h
    split at h
    · split at h
      · cases h
      · cases h; decide
    · cases h
theorem sp_part_w {o : Option sp_Cs} {x a : Int32} {v : Nat} (h : sp_part o x a = .inr v) : v < 6 := by
  cases o with
  | none => cases h
  | some q =>
    simp only [sp_part] at h
    split at h
    · split at h
      · split at h
        · cases h
        · split at h
          · cases h
          · cases h; decide
      · cases h; decide
    · cases h
theorem sp_line_w {o : Option sp_Cs} {x1 x2 x3 : Int32} {v : Nat} (h : sp_line o x1 x2 x3 = .inr v) : v < 6 := by
  cases o with
  | none => cases h
  | some q =>
    simp only [sp_line] at h
    split at h
    · unfold sp_lr at h
      split at h
      · cases h; decide
      · cases h
    · cases h; decide
set_option maxRecDepth 10000 in
set_option maxHeartbeats 4000000 in
theorem j_told {sc : pm_C} {H : pm_H} {c w : Int32} (hJJ : JJ sc H) : jT sc e_X9_told e_X10_told [.int c, .int w] H := by
  obtain ⟨h, xi, xl, xc, XA, XB, mi, ml, A, B, rfl, hJ⟩ := hJJ
  have hJ0 := hJ
  obtain ⟨hC, hF, hR, hN, hA, hS⟩ := hJ
  obtain ⟨cn, C, hx, hm, hh, hsc⟩ := hC
  have hX := c_X9_told (xl := xl) (XA := XA) (XB := XB) (x_CC_M (ml := ml) (B := B) (mi := mi) (A := A) hx) (c := c) (w := w)
  have hM := fun h => c_X10_told (h := h) (ml := ml) (B := B) hm (c := c) (w := w)
  have hlt : ∀ v, (sp_told ((pm_ci c cn).map C) w) = .inr v → v < 6 := fun v hv => sp_told_w hv
  generalize (sp_told ((pm_ci c cn).map C) w) = r at hX hM hlt
  cases r with
  | inl y => exact jt hX (hM _) hJ0
  | inr w9 => exact jt hX (hM _) (j_meet (B := B) (XB := XB) (hlt w9 rfl) hJ0)
set_option maxRecDepth 10000 in
set_option maxHeartbeats 4000000 in
theorem j_mark {sc : pm_C} {H : pm_H} {c w : Int32} (hJJ : JJ sc H) : jT sc e_X9_mark e_X10_mark [.int c, .int w] H := by
  obtain ⟨h, xi, xl, xc, XA, XB, mi, ml, A, B, rfl, hJ⟩ := hJJ
  have hJ0 := hJ
  obtain ⟨hC, hF, hR, hN, hA, hS⟩ := hJ
  obtain ⟨cn, C, hx, hm, hh, hsc⟩ := hC
  have hX := c_X9_mark (xl := xl) (XA := XA) (XB := XB) (x_CC_M (ml := ml) (B := B) (mi := mi) (A := A) hx) (c := c) (w := w)
  have hM := fun h => c_X10_mark (h := h) (ml := ml) (B := B) hm (c := c) (w := w)
  have hlt : ∀ v, (sp_mark ((pm_ci c cn).map C) w) = .inr v → v < 6 := fun v hv => sp_mark_w hv
  generalize (sp_mark ((pm_ci c cn).map C) w) = r at hX hM hlt
  cases r with
  | inl y => exact jt hX (hM _) hJ0
  | inr w9 => exact jt hX (hM _) (j_meet (B := B) (XB := XB) (hlt w9 rfl) hJ0)
set_option maxRecDepth 10000 in
set_option maxHeartbeats 4000000 in
theorem j_part {sc : pm_C} {H : pm_H} {c x a : Int32} (hJJ : JJ sc H) : jT sc e_X9_part e_X10_part [.int c, .int x, .int a] H := by
  obtain ⟨h, xi, xl, xc, XA, XB, mi, ml, A, B, rfl, hJ⟩ := hJJ
  have hJ0 := hJ
  obtain ⟨hC, hF, hR, hN, hA, hS⟩ := hJ
  obtain ⟨cn, C, hx, hm, hh, hsc⟩ := hC
  have hX := c_X9_part (xl := xl) (XA := XA) (XB := XB) (x_CC_M (ml := ml) (B := B) (mi := mi) (A := A) hx) (c := c) (x := x) (a := a)
  have hM := fun h => c_X10_part (h := h) (ml := ml) (B := B) hm (c := c) (x := x) (a := a)
  have hlt : ∀ v, (sp_part ((pm_ci c cn).map C) x a) = .inr v → v < 6 := fun v hv => sp_part_w hv
  generalize (sp_part ((pm_ci c cn).map C) x a) = r at hX hM hlt
  cases r with
  | inl y => exact jt hX (hM _) hJ0
  | inr w9 => exact jt hX (hM _) (j_meet (B := B) (XB := XB) (hlt w9 rfl) hJ0)
set_option maxRecDepth 10000 in
set_option maxHeartbeats 4000000 in
theorem j_line {sc : pm_C} {H : pm_H} {c x1 x2 x3 : Int32} (hJJ : JJ sc H) : jT sc e_X9_line e_X10_line [.int c, .int x1, .int x2, .int x3] H := by
  obtain ⟨h, xi, xl, xc, XA, XB, mi, ml, A, B, rfl, hJ⟩ := hJJ
  have hJ0 := hJ
  obtain ⟨hC, hF, hR, hN, hA, hS⟩ := hJ
  obtain ⟨cn, C, hx, hm, hh, hsc⟩ := hC
  have hX := c_X9_line (xl := xl) (XA := XA) (XB := XB) (x_CC_M (ml := ml) (B := B) (mi := mi) (A := A) hx) (c := c) (x1 := x1) (x2 := x2) (x3 := x3)
  have hM := fun h => c_X10_line (h := h) (ml := ml) (B := B) hm (c := c) (x1 := x1) (x2 := x2) (x3 := x3)
  have hlt : ∀ v, (sp_line ((pm_ci c cn).map C) x1 x2 x3) = .inr v → v < 6 := fun v hv => sp_line_w hv
  generalize (sp_line ((pm_ci c cn).map C) x1 x2 x3) = r at hX hM hlt
  cases r with
  | inl y => exact jt hX (hM _) hJ0
  | inr w9 => exact jt hX (hM _) (j_meet (B := B) (XB := XB) (hlt w9 rfl) hJ0)
