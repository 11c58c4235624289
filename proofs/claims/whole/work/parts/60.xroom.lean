/-! the room: all of its cells, as one overlay. xi: 0 casters, 1 finding, 2 acts, 3.. the rows' sizes; xl: 0 asked, 1 upper, 2 lower, 3 seed, 4 all -/
def x_obj (xi : Nat → Int32) (xl : Nat → Int64) : List Value := [.ref 2, .int (xi 0), .ref 3, .ref 4, .ref 6, .ref 7, .ref 12, .ref 13, .ref 17, .ref 18, .ref 19, .int (xi 1), .long (xl 0), .long (xl 1), .long (xl 2)]
def x_fa (f : Nat) : Option Nat := if f < 8 then some (20 + 2 * f) else none
def x_ra (r : Nat) : Option Nat := if r < 4 then some (36 + 2 * r) else none
def x_cell (xi : Nat → Int32) (xl : Nat → Int64) (xc : Nat → Option Nat) (XA : Nat → Nat → Int32) (XB : Nat → Nat → Int64) (q : Nat) : pm_C := match q with
  | 1 => .inr (9, x_obj xi xl)
  | 2 => .inl (.object RX1, 10, .inr (.inr (.inr (.inr xc))))
  | 3 => .inl (.object RX3, 8, .inr (.inr (.inr (.inr x_fa))))
  | 4 => .inr (3, [.ref 5])
  | 5 => at_I 6 (XA 5)
  | 6 => .inl (.object RX0, 4, .inr (.inr (.inr (.inr x_ra))))
  | 7 => .inr (8, [.ref 8, .ref 9, .ref 10, .ref 11, .int (xi 2)])
  | 8 => at_I 64 (XA 8)
  | 9 => at_I 64 (XA 9)
  | 10 => at_I 64 (XA 10)
  | 11 => at_I 64 (XA 11)
  | 12 => at_seed (xl 3)
  | 13 => .inr (4, [.ref 14, .ref 15, .ref 16, .long (xl 4)])
  | 14 => at_J 31 (XB 14)
  | 15 => at_J 61 (XB 15)
  | 16 => at_J 61 (XB 16)
  | 17 => at_I 31 (XA 17)
  | 18 => at_I 31 (XA 18)
  | 19 => at_I 6 (XA 19)
  | 20 => .inr (3, [.ref 21])
  | 21 => at_I 6 (XA 21)
  | 22 => .inr (3, [.ref 23])
  | 23 => at_I 6 (XA 23)
  | 24 => .inr (3, [.ref 25])
  | 25 => at_I 6 (XA 25)
  | 26 => .inr (3, [.ref 27])
  | 27 => at_I 6 (XA 27)
  | 28 => .inr (3, [.ref 29])
  | 29 => at_I 6 (XA 29)
  | 30 => .inr (3, [.ref 31])
  | 31 => at_I 6 (XA 31)
  | 32 => .inr (3, [.ref 33])
  | 33 => at_I 6 (XA 33)
  | 34 => .inr (3, [.ref 35])
  | 35 => at_I 6 (XA 35)
  | 36 => .inr (0, [.ref 37, .int (xi 3)])
  | 37 => at_Y 64 (XA 37)
  | 38 => .inr (0, [.ref 39, .int (xi 4)])
  | 39 => at_Y 64 (XA 39)
  | 40 => .inr (0, [.ref 41, .int (xi 5)])
  | 41 => at_Y 64 (XA 41)
  | 42 => .inr (0, [.ref 43, .int (xi 6)])
  | 43 => at_Y 64 (XA 43)
  | _ => at_I 0 (XA 0)
def pmX (h : pm_H) (xi : Nat → Int32) (xl : Nat → Int64) (xc : Nat → Option Nat) (XA : Nat → Nat → Int32) (XB : Nat → Nat → Int64) : pm_H := (h.1, fun q => if 1 ≤ q ∧ q ≤ 43 then some (x_cell xi xl xc XA XB q) else h.2 q)
section PMX
variable {h : pm_H} {xi : Nat → Int32} {xl : Nat → Int64} {xc : Nat → Option Nat} {XA : Nat → Nat → Int32} {XB : Nat → Nat → Int64}
theorem pmX_up {x : Nat} {c : pm_C} {xi' : Nat → Int32} {xl' : Nat → Int64} {xc' : Nat → Option Nat} {XA' : Nat → Nat → Int32} {XB' : Nat → Nat → Int64} (hx : 1 ≤ x ∧ x ≤ 43) (hc : x_cell xi' xl' xc' XA' XB' x = c) (ho : ∀ q, q ≠ x → x_cell xi' xl' xc' XA' XB' q = x_cell xi xl xc XA XB q) : pm_up (pmX h xi xl xc XA XB) x c = pmX h xi' xl' xc' XA' XB' := by
  refine Prod.ext rfl (funext fun q => ?_)
  show (if q = x then some c else if 1 ≤ q ∧ q ≤ 43 then _ else _) = if 1 ≤ q ∧ q ≤ 43 then some (x_cell xi' xl' xc' XA' XB' q) else _
  by_cases e : q = x
  · subst e
    rw [if_pos rfl, if_pos hx, hc]
  · rw [if_neg e, ho q e]
theorem pmX_ne {a : Nat} (ha : 44 ≤ a) : (pmX h xi xl xc XA XB).2 a = h.2 a := by
  show (if 1 ≤ a ∧ a ≤ 43 then _ else h.2 a) = _
  rw [if_neg (by omega)]
theorem pmX_5 {f : Nat → Int32} : pm_up (pmX h xi xl xc XA XB) 5 (at_I 6 f) = pmX h xi xl xc (va_up XA 5 f) XB := pmX_up (by decide) rfl (fun q hq => by unfold x_cell; split <;> first | rfl | exact absurd rfl hq)
theorem pmX_8 {f : Nat → Int32} : pm_up (pmX h xi xl xc XA XB) 8 (at_I 64 f) = pmX h xi xl xc (va_up XA 8 f) XB := pmX_up (by decide) rfl (fun q hq => by unfold x_cell; split <;> first | rfl | exact absurd rfl hq)
theorem pmX_9 {f : Nat → Int32} : pm_up (pmX h xi xl xc XA XB) 9 (at_I 64 f) = pmX h xi xl xc (va_up XA 9 f) XB := pmX_up (by decide) rfl (fun q hq => by unfold x_cell; split <;> first | rfl | exact absurd rfl hq)
theorem pmX_10 {f : Nat → Int32} : pm_up (pmX h xi xl xc XA XB) 10 (at_I 64 f) = pmX h xi xl xc (va_up XA 10 f) XB := pmX_up (by decide) rfl (fun q hq => by unfold x_cell; split <;> first | rfl | exact absurd rfl hq)
theorem pmX_11 {f : Nat → Int32} : pm_up (pmX h xi xl xc XA XB) 11 (at_I 64 f) = pmX h xi xl xc (va_up XA 11 f) XB := pmX_up (by decide) rfl (fun q hq => by unfold x_cell; split <;> first | rfl | exact absurd rfl hq)
theorem pmX_17 {f : Nat → Int32} : pm_up (pmX h xi xl xc XA XB) 17 (at_I 31 f) = pmX h xi xl xc (va_up XA 17 f) XB := pmX_up (by decide) rfl (fun q hq => by unfold x_cell; split <;> first | rfl | exact absurd rfl hq)
theorem pmX_18 {f : Nat → Int32} : pm_up (pmX h xi xl xc XA XB) 18 (at_I 31 f) = pmX h xi xl xc (va_up XA 18 f) XB := pmX_up (by decide) rfl (fun q hq => by unfold x_cell; split <;> first | rfl | exact absurd rfl hq)
theorem pmX_19 {f : Nat → Int32} : pm_up (pmX h xi xl xc XA XB) 19 (at_I 6 f) = pmX h xi xl xc (va_up XA 19 f) XB := pmX_up (by decide) rfl (fun q hq => by unfold x_cell; split <;> first | rfl | exact absurd rfl hq)
theorem pmX_21 {f : Nat → Int32} : pm_up (pmX h xi xl xc XA XB) 21 (at_I 6 f) = pmX h xi xl xc (va_up XA 21 f) XB := pmX_up (by decide) rfl (fun q hq => by unfold x_cell; split <;> first | rfl | exact absurd rfl hq)
theorem pmX_23 {f : Nat → Int32} : pm_up (pmX h xi xl xc XA XB) 23 (at_I 6 f) = pmX h xi xl xc (va_up XA 23 f) XB := pmX_up (by decide) rfl (fun q hq => by unfold x_cell; split <;> first | rfl | exact absurd rfl hq)
theorem pmX_25 {f : Nat → Int32} : pm_up (pmX h xi xl xc XA XB) 25 (at_I 6 f) = pmX h xi xl xc (va_up XA 25 f) XB := pmX_up (by decide) rfl (fun q hq => by unfold x_cell; split <;> first | rfl | exact absurd rfl hq)
theorem pmX_27 {f : Nat → Int32} : pm_up (pmX h xi xl xc XA XB) 27 (at_I 6 f) = pmX h xi xl xc (va_up XA 27 f) XB := pmX_up (by decide) rfl (fun q hq => by unfold x_cell; split <;> first | rfl | exact absurd rfl hq)
theorem pmX_29 {f : Nat → Int32} : pm_up (pmX h xi xl xc XA XB) 29 (at_I 6 f) = pmX h xi xl xc (va_up XA 29 f) XB := pmX_up (by decide) rfl (fun q hq => by unfold x_cell; split <;> first | rfl | exact absurd rfl hq)
theorem pmX_31 {f : Nat → Int32} : pm_up (pmX h xi xl xc XA XB) 31 (at_I 6 f) = pmX h xi xl xc (va_up XA 31 f) XB := pmX_up (by decide) rfl (fun q hq => by unfold x_cell; split <;> first | rfl | exact absurd rfl hq)
theorem pmX_33 {f : Nat → Int32} : pm_up (pmX h xi xl xc XA XB) 33 (at_I 6 f) = pmX h xi xl xc (va_up XA 33 f) XB := pmX_up (by decide) rfl (fun q hq => by unfold x_cell; split <;> first | rfl | exact absurd rfl hq)
theorem pmX_35 {f : Nat → Int32} : pm_up (pmX h xi xl xc XA XB) 35 (at_I 6 f) = pmX h xi xl xc (va_up XA 35 f) XB := pmX_up (by decide) rfl (fun q hq => by unfold x_cell; split <;> first | rfl | exact absurd rfl hq)
theorem pmX_37 {f : Nat → Int32} : pm_up (pmX h xi xl xc XA XB) 37 (at_Y 64 f) = pmX h xi xl xc (va_up XA 37 f) XB := pmX_up (by decide) rfl (fun q hq => by unfold x_cell; split <;> first | rfl | exact absurd rfl hq)
theorem pmX_36 {x : Int32} : pm_up (pmX h xi xl xc XA XB) 36 (.inr (0, [.ref 37, .int x])) = pmX h (upd xi 3 x) xl xc XA XB := pmX_up (by decide) rfl (fun q hq => by unfold x_cell; split <;> first | rfl | exact absurd rfl hq)
theorem pmX_39 {f : Nat → Int32} : pm_up (pmX h xi xl xc XA XB) 39 (at_Y 64 f) = pmX h xi xl xc (va_up XA 39 f) XB := pmX_up (by decide) rfl (fun q hq => by unfold x_cell; split <;> first | rfl | exact absurd rfl hq)
theorem pmX_38 {x : Int32} : pm_up (pmX h xi xl xc XA XB) 38 (.inr (0, [.ref 39, .int x])) = pmX h (upd xi 4 x) xl xc XA XB := pmX_up (by decide) rfl (fun q hq => by unfold x_cell; split <;> first | rfl | exact absurd rfl hq)
theorem pmX_41 {f : Nat → Int32} : pm_up (pmX h xi xl xc XA XB) 41 (at_Y 64 f) = pmX h xi xl xc (va_up XA 41 f) XB := pmX_up (by decide) rfl (fun q hq => by unfold x_cell; split <;> first | rfl | exact absurd rfl hq)
theorem pmX_40 {x : Int32} : pm_up (pmX h xi xl xc XA XB) 40 (.inr (0, [.ref 41, .int x])) = pmX h (upd xi 5 x) xl xc XA XB := pmX_up (by decide) rfl (fun q hq => by unfold x_cell; split <;> first | rfl | exact absurd rfl hq)
theorem pmX_43 {f : Nat → Int32} : pm_up (pmX h xi xl xc XA XB) 43 (at_Y 64 f) = pmX h xi xl xc (va_up XA 43 f) XB := pmX_up (by decide) rfl (fun q hq => by unfold x_cell; split <;> first | rfl | exact absurd rfl hq)
theorem pmX_42 {x : Int32} : pm_up (pmX h xi xl xc XA XB) 42 (.inr (0, [.ref 43, .int x])) = pmX h (upd xi 6 x) xl xc XA XB := pmX_up (by decide) rfl (fun q hq => by unfold x_cell; split <;> first | rfl | exact absurd rfl hq)
theorem pmX_14 {f : Nat → Int64} : pm_up (pmX h xi xl xc XA XB) 14 (at_J 31 f) = pmX h xi xl xc XA (va_up XB 14 f) := pmX_up (by decide) rfl (fun q hq => by unfold x_cell; split <;> first | rfl | exact absurd rfl hq)
theorem pmX_15 {f : Nat → Int64} : pm_up (pmX h xi xl xc XA XB) 15 (at_J 61 f) = pmX h xi xl xc XA (va_up XB 15 f) := pmX_up (by decide) rfl (fun q hq => by unfold x_cell; split <;> first | rfl | exact absurd rfl hq)
theorem pmX_16 {f : Nat → Int64} : pm_up (pmX h xi xl xc XA XB) 16 (at_J 61 f) = pmX h xi xl xc XA (va_up XB 16 f) := pmX_up (by decide) rfl (fun q hq => by unfold x_cell; split <;> first | rfl | exact absurd rfl hq)
theorem pmX_7 {x : Int32} : pm_up (pmX h xi xl xc XA XB) 7 (.inr (8, [.ref 8, .ref 9, .ref 10, .ref 11, .int x])) = pmX h (upd xi 2 x) xl xc XA XB := pmX_up (by decide) rfl (fun q hq => by unfold x_cell; split <;> first | rfl | exact absurd rfl hq)
theorem pmX_12 {x : Int64} : pm_up (pmX h xi xl xc XA XB) 12 (at_seed x) = pmX h xi (vp_updL xl 3 x) xc XA XB := pmX_up (by decide) rfl (fun q hq => by unfold x_cell; split <;> first | rfl | exact absurd rfl hq)
theorem pmX_13 {x : Int64} : pm_up (pmX h xi xl xc XA XB) 13 (.inr (4, [.ref 14, .ref 15, .ref 16, .long x])) = pmX h xi (vp_updL xl 4 x) xc XA XB := pmX_up (by decide) rfl (fun q hq => by unfold x_cell; split <;> first | rfl | exact absurd rfl hq)
theorem pmX_2 {f : Nat → Option Nat} : pm_up (pmX h xi xl xc XA XB) 2 (.inl (.object RX1, 10, .inr (.inr (.inr (.inr f))))) = pmX h xi xl f XA XB := pmX_up (by decide) rfl (fun q hq => by unfold x_cell; split <;> first | rfl | exact absurd rfl hq)
theorem pmX_casterCount {x : Int32} : pm_up (pmX h xi xl xc XA XB) 1 (.inr (9, (x_obj xi xl).set 1 (.int x))) = pmX h (upd xi 0 x) xl xc XA XB := pmX_up (by decide) rfl (fun q hq => by unfold x_cell; split <;> first | rfl | exact absurd rfl hq)
theorem pmX_finding {x : Int32} : pm_up (pmX h xi xl xc XA XB) 1 (.inr (9, (x_obj xi xl).set 11 (.int x))) = pmX h (upd xi 1 x) xl xc XA XB := pmX_up (by decide) rfl (fun q hq => by unfold x_cell; split <;> first | rfl | exact absurd rfl hq)
theorem pmX_asked {x : Int64} : pm_up (pmX h xi xl xc XA XB) 1 (.inr (9, (x_obj xi xl).set 12 (.long x))) = pmX h xi (vp_updL xl 0 x) xc XA XB := pmX_up (by decide) rfl (fun q hq => by unfold x_cell; split <;> first | rfl | exact absurd rfl hq)
theorem pmX_upper {x : Int64} : pm_up (pmX h xi xl xc XA XB) 1 (.inr (9, (x_obj xi xl).set 13 (.long x))) = pmX h xi (vp_updL xl 1 x) xc XA XB := pmX_up (by decide) rfl (fun q hq => by unfold x_cell; split <;> first | rfl | exact absurd rfl hq)
theorem pmX_lower {x : Int64} : pm_up (pmX h xi xl xc XA XB) 1 (.inr (9, (x_obj xi xl).set 14 (.long x))) = pmX h xi (vp_updL xl 2 x) xc XA XB := pmX_up (by decide) rfl (fun q hq => by unfold x_cell; split <;> first | rfl | exact absurd rfl hq)
theorem x8 {p : Nat → Prop} {f : Nat} (hf : f < 8) (h0 : p 0) (h1 : p 1) (h2 : p 2) (h3 : p 3) (h4 : p 4) (h5 : p 5) (h6 : p 6) (h7 : p 7) : p f := by
  rcases (show f = 0 ∨ f = 1 ∨ f = 2 ∨ f = 3 ∨ f = 4 ∨ f = 5 ∨ f = 6 ∨ f = 7 by omega) with rfl | rfl | rfl | rfl | rfl | rfl | rfl | rfl <;> assumption
theorem x4 {p : Nat → Prop} {f : Nat} (hf : f < 4) (h0 : p 0) (h1 : p 1) (h2 : p 2) (h3 : p 3) : p f := by
  rcases (show f = 0 ∨ f = 1 ∨ f = 2 ∨ f = 3 by omega) with rfl | rfl | rfl | rfl <;> assumption
theorem xf_o {f : Nat} (hf : f < 8) : (pmX h xi xl xc XA XB).2 (20 + 2 * f) = some (.inr (3, [.ref (21 + 2 * f)])) := x8 (p := fun f => (pmX h xi xl xc XA XB).2 (20 + 2 * f) = some (.inr (3, [.ref (21 + 2 * f)]))) hf rfl rfl rfl rfl rfl rfl rfl rfl
theorem xf_l {f : Nat} (hf : f < 8) : (pmX h xi xl xc XA XB).2 (21 + 2 * f) = some (at_I 6 (XA (21 + 2 * f))) := x8 (p := fun f => (pmX h xi xl xc XA XB).2 (21 + 2 * f) = some (at_I 6 (XA (21 + 2 * f)))) hf rfl rfl rfl rfl rfl rfl rfl rfl
theorem xr_o {r : Nat} (hr : r < 4) : (pmX h xi xl xc XA XB).2 (36 + 2 * r) = some (.inr (0, [.ref (37 + 2 * r), .int (xi (3 + r))])) := x4 (p := fun r => (pmX h xi xl xc XA XB).2 (36 + 2 * r) = some (.inr (0, [.ref (37 + 2 * r), .int (xi (3 + r))]))) hr rfl rfl rfl rfl
theorem xr_l {r : Nat} (hr : r < 4) : (pmX h xi xl xc XA XB).2 (37 + 2 * r) = some (at_Y 64 (XA (37 + 2 * r))) := x4 (p := fun r => (pmX h xi xl xc XA XB).2 (37 + 2 * r) = some (at_Y 64 (XA (37 + 2 * r)))) hr rfl rfl rfl rfl
theorem xf_up {f : Nat} {g : Nat → Int32} (hf : f < 8) : pm_up (pmX h xi xl xc XA XB) (21 + 2 * f) (at_I 6 g) = pmX h xi xl xc (va_up XA (21 + 2 * f) g) XB := x8 (p := fun f => pm_up (pmX h xi xl xc XA XB) (21 + 2 * f) (at_I 6 g) = pmX h xi xl xc (va_up XA (21 + 2 * f) g) XB) hf pmX_21 pmX_23 pmX_25 pmX_27 pmX_29 pmX_31 pmX_33 pmX_35
theorem xr_up {r : Nat} {g : Nat → Int32} (hr : r < 4) : pm_up (pmX h xi xl xc XA XB) (37 + 2 * r) (at_Y 64 g) = pmX h xi xl xc (va_up XA (37 + 2 * r) g) XB := x4 (p := fun r => pm_up (pmX h xi xl xc XA XB) (37 + 2 * r) (at_Y 64 g) = pmX h xi xl xc (va_up XA (37 + 2 * r) g) XB) hr pmX_37 pmX_39 pmX_41 pmX_43
theorem xr_sz {r : Nat} {x : Int32} (hr : r < 4) : pm_up (pmX h xi xl xc XA XB) (36 + 2 * r) (.inr (0, [.ref (37 + 2 * r), .int x])) = pmX h (upd xi (3 + r) x) xl xc XA XB := x4 (p := fun r => pm_up (pmX h xi xl xc XA XB) (36 + 2 * r) (.inr (0, [.ref (37 + 2 * r), .int x])) = pmX h (upd xi (3 + r) x) xl xc XA XB) hr pmX_36 pmX_38 pmX_40 pmX_42
theorem pmX_nw {c : pm_C} (hh : 44 ≤ h.1) : pm_nw (pmX h xi xl xc XA XB) c = pmX (pm_nw h c) xi xl xc XA XB := by
  refine Prod.ext rfl (funext fun q => ?_)
  show (if q = h.1 then some c else if 1 ≤ q ∧ q ≤ 43 then _ else h.2 q) = if 1 ≤ q ∧ q ≤ 43 then _ else if q = h.1 then some c else h.2 q
  by_cases e : q = h.1
  · rw [if_pos e, if_neg (by omega), if_pos e]
  · rw [if_neg e, if_neg e]
theorem pmX_hi {a : Nat} {c : pm_C} (ha : 44 ≤ a) : pm_up (pmX h xi xl xc XA XB) a c = pmX (pm_up h a c) xi xl xc XA XB := by
  refine Prod.ext rfl (funext fun q => ?_)
  show (if q = a then some c else if 1 ≤ q ∧ q ≤ 43 then _ else h.2 q) = if 1 ≤ q ∧ q ≤ 43 then _ else if q = a then some c else h.2 q
  by_cases e : q = a
  · rw [if_pos e, if_neg (by omega), if_pos e]
  · rw [if_neg e, if_neg e]
theorem pmX_M {mi : Nat → Int32} {ml : Nat → Int64} {A : Nat → Nat → Int32} {B : Nat → Nat → Int64} : pmM (pmX h xi xl xc XA XB) mi ml A B = pmX (pmM h mi ml A B) xi xl xc XA XB := by
  refine Prod.ext rfl (funext fun q => ?_)
  show (if q = 44 then _ else if 45 ≤ q ∧ q ≤ 67 then _ else if 1 ≤ q ∧ q ≤ 43 then _ else h.2 q) = if 1 ≤ q ∧ q ≤ 43 then _ else if q = 44 then _ else if 45 ≤ q ∧ q ≤ 67 then _ else h.2 q
  by_cases e : 1 ≤ q ∧ q ≤ 43
  · rw [if_pos e, if_neg (by omega), if_neg (by omega), if_pos e]
  · rw [if_neg e, if_neg e]
theorem pmX_F {wt mb ac : Nat → Nat} {bf : Nat → Option Nat} {cn : Nat} : pmF (pmX h xi xl xc XA XB) wt bf mb ac cn = pmX h (upd xi 2 (nI cn)) xl xc (va_up (va_up (va_up (va_up XA 8 (fun j => nI (wt j))) 9 (fun j => bI (bf j))) 10 (fun j => nI (mb j))) 11 (fun j => nI (ac j))) XB := by
  rw [← pmX_11, ← pmX_10, ← pmX_9, ← pmX_8, ← pmX_7]
  refine Prod.ext rfl (funext fun q => ?_)
  show (if q = 7 then _ else if q = 8 then _ else if q = 9 then _ else if q = 10 then _ else if q = 11 then _ else _) = if q = 11 then _ else if q = 10 then _ else if q = 9 then _ else if q = 8 then _ else if q = 7 then _ else _
  by_cases e7 : q = 7
  · subst e7; rfl
  · by_cases e8 : q = 8
    · subst e8; rfl
    · by_cases e9 : q = 9
      · subst e9; rfl
      · by_cases e10 : q = 10
        · subst e10; rfl
        · simp [e7, e8, e9, e10]
theorem pmX_O {W Hp Nx : Nat → Nat} {al : Nat} : pmO (pmX h xi xl xc XA XB) W Hp Nx al = pmX h xi (vp_updL xl 4 (lN al)) xc XA (va_up (va_up (va_up XB 14 (fun j => lN (W j))) 15 (fun j => lN (Hp j))) 16 (fun j => lN (Nx j))) := by
  rw [← pmX_16, ← pmX_15, ← pmX_14, ← pmX_13]
  refine Prod.ext rfl (funext fun q => ?_)
  show (if q = 13 then _ else if q = 14 then _ else if q = 15 then _ else if q = 16 then _ else _) = if q = 16 then _ else if q = 15 then _ else if q = 14 then _ else if q = 13 then _ else _
  by_cases e7 : q = 13
  · subst e7; rfl
  · by_cases e8 : q = 14
    · subst e8; rfl
    · by_cases e9 : q = 15
      · subst e9; rfl
      · simp [e7, e8, e9]
theorem pmX_Fo (hc : Int32) (e : xi 2 = hc) : ∃ wt mb ac bf cn, pmX h xi xl xc XA XB = pmF (pmX h xi xl xc XA XB) wt bf mb ac cn ∧ XA 11 = (fun j => nI (ac j)) ∧ nI cn = hc := by
  obtain ⟨wt, h8⟩ := pm_nIs (XA 8)
  obtain ⟨mb, h10⟩ := pm_nIs (XA 10)
  obtain ⟨ac, h11⟩ := pm_nIs (XA 11)
  obtain ⟨g, hg⟩ := pm_nIs (fun _ => xi 2)
  have h9 : ∃ bf : Nat → Option Nat, XA 9 = fun j => bI (bf j) := by
    obtain ⟨g9, hg9⟩ := pm_nIs (XA 9)
    exact ⟨fun j => some (g9 j), hg9⟩
  obtain ⟨bf, h9⟩ := h9
  have hx2 : xi 2 = nI (g 0) := congrFun hg 0
  refine ⟨wt, mb, ac, bf, g 0, ?_, h11, by rw [← e, hx2]⟩
  rw [pmX_F, ← hx2, ← h8, ← h9, ← h10, ← h11]
  rw [m_uu0 rfl, m_aus XA 8, m_aus XA 9, m_aus XA 10, m_aus XA 11]
theorem pmX_Oo : ∃ W Hp Nx al, pmX h xi xl xc XA XB = pmO (pmX h xi xl xc XA XB) W Hp Nx al := by
  obtain ⟨W, h14⟩ := pm_lNs (XB 14)
  obtain ⟨Hp, h15⟩ := pm_lNs (XB 15)
  obtain ⟨Nx, h16⟩ := pm_lNs (XB 16)
  obtain ⟨g, hg⟩ := pm_lNs (fun _ => xl 4)
  have hx4 : xl 4 = lN (g 0) := congrFun hg 0
  refine ⟨W, Hp, Nx, g 0, ?_⟩
  rw [pmX_O, ← hx4, ← h14, ← h15, ← h16, m_aus XB 14, m_aus XB 15, m_aus XB 16]
  congr 1
  funext j
  simp only [vp_updL]
  by_cases e : j = 4
  · rw [if_pos e, e]
  · rw [if_neg e]
end PMX
def x_meet (h : pm_H) (xi : Nat → Int32) (xl : Nat → Int64) (xc : Nat → Option Nat) (XA : Nat → Nat → Int32) (XB : Nat → Nat → Int64) (w : Nat) : pm_H := pmX h (upd xi 1 (nI w)) xl xc (va_up XA 19 (upd (XA 19) w (XA 19 w + 1))) XB
/-- the casters of the room -/
def x_CC (h : pm_H) (xi : Nat → Int32) (xc : Nat → Option Nat) (cn : Nat) (C : Nat → sp_Cs) : Prop := xi 0 = nI cn ∧ cn ≤ 10 ∧ ∀ j, j < cn → xc j = some (68 + j) ∧ pm_cs h (68 + j) (C j).1 (C j).2.1 (C j).2.2.1 (C j).2.2.2.1 (C j).2.2.2.2.1 (C j).2.2.2.2.2
theorem pm_cs_X {h : pm_H} {xi : Nat → Int32} {xl : Nat → Int64} {xc : Nat → Option Nat} {XA : Nat → Nat → Int32} {XB : Nat → Nat → Int64} {a kd n k f lo hi : Nat} (ha : 44 ≤ a) : pm_cs (pmX h xi xl xc XA XB) a kd n k f lo hi ↔ pm_cs h a kd n k f lo hi := by
  unfold pm_cs
  rw [pmX_ne ha]
theorem sp_in_78 {f : Int32} (h1 : ¬ f < 0) (h2 : f < 8) : sp_in f 0 7 = true := by
  refine decide_eq_true ?_
  simp only [Int32.lt_iff_toInt_lt, Int32.le_iff_toInt_le, ← Int32.toInt_inj, pm_t0, pm_t1, pm_t2, pm_t3, pm_t4, pm_t5, pm_t6, pm_t7, pm_t8, pm_t9, pm_t10, pm_t11, pm_t12, pm_t13, pm_t14, pm_t15, pm_t30, pm_t31, pm_t59, pm_t60, pm_t63, pm_t64, pm_t511, pm_t512] at *
  omega
theorem sp_in_34 {f : Int32} (h1 : ¬ f < 0) (h2 : f < 4) : sp_in f 0 3 = true := by
  refine decide_eq_true ?_
  simp only [Int32.lt_iff_toInt_lt, Int32.le_iff_toInt_le, ← Int32.toInt_inj, pm_t0, pm_t1, pm_t2, pm_t3, pm_t4, pm_t5, pm_t6, pm_t7, pm_t8, pm_t9, pm_t10, pm_t11, pm_t12, pm_t13, pm_t14, pm_t15, pm_t30, pm_t31, pm_t59, pm_t60, pm_t63, pm_t64, pm_t511, pm_t512] at *
  omega
set_option maxRecDepth 10000 in
set_option maxHeartbeats 4000000 in
theorem c_X9_casterAt_no {h : pm_H} {xi : Nat → Int32} {xl : Nat → Int64} {xc : Nat → Option Nat} {XA : Nat → Nat → Int32} {XB : Nat → Nat → Int64} {c : Int32} {cn : Nat} (hcn : xi 0 = nI cn) (hci : pm_ci c cn = none) : pm_Cv e_X9_casterAt [.ref 1, .int c] (pmX h xi xl xc XA XB) .null (pmX h xi xl xc XA XB) := by
  refine pm_enter rfl (Nat.le_of_ble_eq_true rfl) ?_
  show pm_V e_X9_casterAt 0 [some (.ref 1), some (.int c)] [] (pmX h xi xl xc XA XB) (0, 0) _
  refine r_iload_1 d_X9_casterAt_0 ?_
  refine r_if_lt d_X9_casterAt_1 (fun c1 => ?_) (fun c1 => ?_)
  · -- taken at 1
    refine r_null d_X9_casterAt_12 ?_
    refine r_goto d_X9_casterAt_13 ?_
    refine r_areturnN d_X9_casterAt_22 rfl ?_
    exact ⟨rfl, rfl⟩
  · -- not taken at 1
    refine r_iload_1 d_X9_casterAt_4 ?_
    refine r_aload_0 d_X9_casterAt_5 ?_
    refine r_get d_X9_casterAt_6 s9_casterCount rfl rfl ?_
    rw [hcn]
    refine r_icmp_lt d_X9_casterAt_9 (fun c9 => ?_) (fun c9 => ?_)
    · -- taken at 9
      exact absurd ⟨Int32.not_lt.mp c1, c9⟩ (pm_ci_none hci)
    · -- not taken at 9
      refine r_null d_X9_casterAt_12 ?_
      refine r_goto d_X9_casterAt_13 ?_
      refine r_areturnN d_X9_casterAt_22 rfl ?_
      exact ⟨rfl, rfl⟩
set_option maxRecDepth 10000 in
set_option maxHeartbeats 4000000 in
theorem c_X9_casterAt {h : pm_H} {xi : Nat → Int32} {xl : Nat → Int64} {xc : Nat → Option Nat} {XA : Nat → Nat → Int32} {XB : Nat → Nat → Int64} {j cn : Nat} {C : Nat → sp_Cs} (hCC : x_CC h xi xc cn C) (hj : j < cn) : pm_Cv e_X9_casterAt [.ref 1, .int (nI j)] (pmX h xi xl xc XA XB) (.ref (68 + j)) (pmX h xi xl xc XA XB) := by
  obtain ⟨hcn, hn10, hC⟩ := hCC
  have hxj := (hC j hj).1
  refine pm_enter rfl (Nat.le_of_ble_eq_true rfl) ?_
  show pm_V e_X9_casterAt 0 [some (.ref 1), some (.int (nI j))] [] (pmX h xi xl xc XA XB) (0, 0) _
  refine r_iload_1 d_X9_casterAt_0 ?_
  refine r_if_lt d_X9_casterAt_1 (fun c1 => ?_) (fun c1 => ?_)
  · -- taken at 1
    have c1 : j < 0 := (nI_ltI (a := j) (b := 0) (by omega) (by omega)).mp c1
    exfalso; omega
  · -- not taken at 1
    have c1 : ¬ j < 0 := fun zz9 => c1 ((nI_ltI (a := j) (b := 0) (by omega) (by omega)).mpr zz9)
    refine r_iload_1 d_X9_casterAt_4 ?_
    refine r_aload_0 d_X9_casterAt_5 ?_
    refine r_get d_X9_casterAt_6 s9_casterCount rfl rfl ?_
    rw [hcn]
    refine r_icmp_lt d_X9_casterAt_9 (fun c9 => ?_) (fun c9 => ?_)
    · -- taken at 9
      have c9 : j < cn := (nI_ltI (a := j) (b := cn) (by omega) (by omega)).mp c9
      refine r_aload_0 d_X9_casterAt_16 ?_
      refine r_get d_X9_casterAt_17 s9_casters rfl rfl ?_
      refine r_iload_1 d_X9_casterAt_20 ?_
      refine r_aaldRX1 d_X9_casterAt_21 rfl (pm_ixN (by omega) (by omega)) ?_
      rw [hxj]
      show pm_V _ _ _ (.ref (68 + j) :: _) _ _ _
      refine r_areturn d_X9_casterAt_22 rfl ?_
      exact ⟨rfl, rfl⟩
    · -- not taken at 9
      have c9 : ¬ j < cn := fun zz9 => c9 ((nI_ltI (a := j) (b := cn) (by omega) (by omega)).mpr zz9)
      exfalso; omega
set_option maxRecDepth 10000 in
set_option maxHeartbeats 4000000 in
theorem c_X9_figureAt_no {h : pm_H} {xi : Nat → Int32} {xl : Nat → Int64} {xc : Nat → Option Nat} {XA : Nat → Nat → Int32} {XB : Nat → Nat → Int64} {f : Int32} (hf : sp_in f 0 7 = false) : pm_Cv e_X9_figureAt [.ref 1, .int f] (pmX h xi xl xc XA XB) .null (pmX h xi xl xc XA XB) := by
  refine pm_enter rfl (Nat.le_of_ble_eq_true rfl) ?_
  show pm_V e_X9_figureAt 0 [some (.ref 1), some (.int f)] [] (pmX h xi xl xc XA XB) (0, 0) _
  refine r_iload_1 d_X9_figureAt_0 ?_
  refine r_if_lt d_X9_figureAt_1 (fun c1 => ?_) (fun c1 => ?_)
  · -- taken at 1
    refine r_null d_X9_figureAt_10 ?_
    refine r_goto d_X9_figureAt_11 ?_
    refine r_areturnN d_X9_figureAt_20 rfl ?_
    exact ⟨rfl, rfl⟩
  · -- not taken at 1
    refine r_iload_1 d_X9_figureAt_4 ?_
    refine r_push d_X9_figureAt_5 ?_
    refine r_icmp_lt d_X9_figureAt_7 (fun c7 => ?_) (fun c7 => ?_)
    · -- taken at 7
      exact absurd hf (by rw [sp_in_78 c1 c7]; decide)
    · -- not taken at 7
      refine r_null d_X9_figureAt_10 ?_
      refine r_goto d_X9_figureAt_11 ?_
      refine r_areturnN d_X9_figureAt_20 rfl ?_
      exact ⟨rfl, rfl⟩
set_option maxRecDepth 10000 in
set_option maxHeartbeats 4000000 in
theorem c_X9_figureAt {h : pm_H} {xi : Nat → Int32} {xl : Nat → Int64} {xc : Nat → Option Nat} {XA : Nat → Nat → Int32} {XB : Nat → Nat → Int64} {f : Nat} (hf : f < 8) : pm_Cv e_X9_figureAt [.ref 1, .int (nI f)] (pmX h xi xl xc XA XB) (.ref (20 + 2 * f)) (pmX h xi xl xc XA XB) := by
  refine pm_enter rfl (Nat.le_of_ble_eq_true rfl) ?_
  show pm_V e_X9_figureAt 0 [some (.ref 1), some (.int (nI f))] [] (pmX h xi xl xc XA XB) (0, 0) _
  refine r_iload_1 d_X9_figureAt_0 ?_
  refine r_if_lt d_X9_figureAt_1 (fun c1 => ?_) (fun c1 => ?_)
  · -- taken at 1
    have c1 : f < 0 := (nI_ltI (a := f) (b := 0) (by omega) (by omega)).mp c1
    exfalso; omega
  · -- not taken at 1
    have c1 : ¬ f < 0 := fun zz9 => c1 ((nI_ltI (a := f) (b := 0) (by omega) (by omega)).mpr zz9)
    refine r_iload_1 d_X9_figureAt_4 ?_
    refine r_push (v := nI 8) d_X9_figureAt_5 ?_
    refine r_icmp_lt d_X9_figureAt_7 (fun c7 => ?_) (fun c7 => ?_)
    · -- taken at 7
      have c7 : f < 8 := (nI_ltI (a := f) (b := 8) (by omega) (by omega)).mp c7
      refine r_aload_0 d_X9_figureAt_14 ?_
      refine r_get d_X9_figureAt_15 s9_figures rfl rfl ?_
      refine r_iload_1 d_X9_figureAt_18 ?_
      refine r_aaldRX3 d_X9_figureAt_19 rfl (pm_ixN (by omega) (by omega)) ?_
      rw [show x_fa f = some (20 + 2 * f) from if_pos hf]
      show pm_V _ _ _ (.ref (20 + 2 * f) :: _) _ _ _
      refine r_areturn d_X9_figureAt_20 rfl ?_
      exact ⟨rfl, rfl⟩
    · -- not taken at 7
      have c7 : ¬ f < 8 := fun zz9 => c7 ((nI_ltI (a := f) (b := 8) (by omega) (by omega)).mpr zz9)
      exfalso; omega
set_option maxRecDepth 10000 in
set_option maxHeartbeats 4000000 in
theorem c_X9_rowAt_no {h : pm_H} {xi : Nat → Int32} {xl : Nat → Int64} {xc : Nat → Option Nat} {XA : Nat → Nat → Int32} {XB : Nat → Nat → Int64} {r : Int32} (hr : sp_in r 0 3 = false) : pm_Cv e_X9_rowAt [.ref 1, .int r] (pmX h xi xl xc XA XB) .null (pmX h xi xl xc XA XB) := by
  refine pm_enter rfl (Nat.le_of_ble_eq_true rfl) ?_
  show pm_V e_X9_rowAt 0 [some (.ref 1), some (.int r)] [] (pmX h xi xl xc XA XB) (0, 0) _
  refine r_iload_1 d_X9_rowAt_0 ?_
  refine r_if_lt d_X9_rowAt_1 (fun c1 => ?_) (fun c1 => ?_)
  · -- taken at 1
    refine r_null d_X9_rowAt_9 ?_
    refine r_goto d_X9_rowAt_10 ?_
    refine r_areturnN d_X9_rowAt_19 rfl ?_
    exact ⟨rfl, rfl⟩
  · -- not taken at 1
    refine r_iload_1 d_X9_rowAt_4 ?_
    refine r_push d_X9_rowAt_5 ?_
    refine r_icmp_lt d_X9_rowAt_6 (fun c6 => ?_) (fun c6 => ?_)
    · -- taken at 6
      exact absurd hr (by rw [sp_in_34 c1 c6]; decide)
    · -- not taken at 6
      refine r_null d_X9_rowAt_9 ?_
      refine r_goto d_X9_rowAt_10 ?_
      refine r_areturnN d_X9_rowAt_19 rfl ?_
      exact ⟨rfl, rfl⟩
set_option maxRecDepth 10000 in
set_option maxHeartbeats 4000000 in
theorem c_X9_rowAt {h : pm_H} {xi : Nat → Int32} {xl : Nat → Int64} {xc : Nat → Option Nat} {XA : Nat → Nat → Int32} {XB : Nat → Nat → Int64} {r : Nat} (hr : r < 4) : pm_Cv e_X9_rowAt [.ref 1, .int (nI r)] (pmX h xi xl xc XA XB) (.ref (36 + 2 * r)) (pmX h xi xl xc XA XB) := by
  refine pm_enter rfl (Nat.le_of_ble_eq_true rfl) ?_
  show pm_V e_X9_rowAt 0 [some (.ref 1), some (.int (nI r))] [] (pmX h xi xl xc XA XB) (0, 0) _
  refine r_iload_1 d_X9_rowAt_0 ?_
  refine r_if_lt d_X9_rowAt_1 (fun c1 => ?_) (fun c1 => ?_)
  · -- taken at 1
    have c1 : r < 0 := (nI_ltI (a := r) (b := 0) (by omega) (by omega)).mp c1
    exfalso; omega
  · -- not taken at 1
    have c1 : ¬ r < 0 := fun zz9 => c1 ((nI_ltI (a := r) (b := 0) (by omega) (by omega)).mpr zz9)
    refine r_iload_1 d_X9_rowAt_4 ?_
    refine r_push (v := nI 4) d_X9_rowAt_5 ?_
    refine r_icmp_lt d_X9_rowAt_6 (fun c6 => ?_) (fun c6 => ?_)
    · -- taken at 6
      have c6 : r < 4 := (nI_ltI (a := r) (b := 4) (by omega) (by omega)).mp c6
      refine r_aload_0 d_X9_rowAt_13 ?_
      refine r_get d_X9_rowAt_14 s9_rows rfl rfl ?_
      refine r_iload_1 d_X9_rowAt_17 ?_
      refine r_aaldRX0 d_X9_rowAt_18 rfl (pm_ixN (by omega) (by omega)) ?_
      rw [show x_ra r = some (36 + 2 * r) from if_pos hr]
      show pm_V _ _ _ (.ref (36 + 2 * r) :: _) _ _ _
      refine r_areturn d_X9_rowAt_19 rfl ?_
      exact ⟨rfl, rfl⟩
    · -- not taken at 6
      have c6 : ¬ r < 4 := fun zz9 => c6 ((nI_ltI (a := r) (b := 4) (by omega) (by omega)).mpr zz9)
      exfalso; omega
set_option maxRecDepth 10000 in
set_option maxHeartbeats 4000000 in
theorem c_X9_found {h : pm_H} {xi : Nat → Int32} {xl : Nat → Int64} {xc : Nat → Option Nat} {XA : Nat → Nat → Int32} {XB : Nat → Nat → Int64} {w : Nat} (hw : w < 6) : pm_Cv e_X9_found [.ref 1, .int (nI w)] (pmX h xi xl xc XA XB) (.int (-3)) (x_meet h xi xl xc XA XB w) := by
  refine pm_enter rfl (Nat.le_of_ble_eq_true rfl) ?_
  show pm_V e_X9_found 0 [some (.ref 1), some (.int (nI w))] [] (pmX h xi xl xc XA XB) (0, 0) _
  refine r_aload_0 d_X9_found_0 ?_
  refine r_iload_1 d_X9_found_1 ?_
  refine r_put d_X9_found_2 s9_latestFinding rfl (Nat.le_of_ble_eq_true rfl) ⟨rfl, rfl⟩ ?_
  rw [pmX_finding]
  refine r_aload_0 d_X9_found_5 ?_
  refine r_get d_X9_found_6 s9_findingTimes rfl rfl ?_
  refine r_iload_1 d_X9_found_9 ?_
  refine r_dup2 d_X9_found_10 rfl rfl ?_
  refine r_iald d_X9_found_11 rfl (pm_ixN (by omega) (by omega)) ?_
  refine r_push d_X9_found_12 ?_
  refine r_iadd d_X9_found_13 ?_
  refine r_iast d_X9_found_14 rfl (pm_ixN (by omega) (by omega)) ?_
  rw [pmX_19]
  refine r_push d_X9_found_15 ?_
  refine r_ireturn d_X9_found_17 ⟨_, rfl, rfl⟩ ?_
  exact ⟨rfl, rfl⟩
