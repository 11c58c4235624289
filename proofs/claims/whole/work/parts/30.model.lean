/-! the reference: all of its cells, as one overlay -/
def m_obj (mi : Nat → Int32) (ml : Nat → Int64) : List Value := [.int (mi 0), .ref 45, .long (ml 0), .long (ml 1), .long (ml 2), .int (mi 1), .ref 46, .ref 47, .ref 48, .ref 49, .ref 50, .ref 51, .ref 52, .ref 53, .ref 54, .ref 55, .ref 56, .ref 57, .long (ml 3), .long (ml 4), .long (ml 5), .ref 58, .ref 59, .ref 60, .int (mi 2), .ref 61, .ref 62, .ref 63, .ref 64, .ref 65, .int (mi 3), .ref 66, .ref 67]
def m_cell (A : Nat → Nat → Int32) (B : Nat → Nat → Int64) (q : Nat) : pm_C := match q with
  | 45 => at_I 6 (A 45)
  | 46 => at_I 10 (A 46)
  | 47 => at_I 10 (A 47)
  | 48 => at_I 10 (A 48)
  | 49 => at_Z 10 (A 49)
  | 50 => at_I 10 (A 50)
  | 51 => at_I 10 (A 51)
  | 52 => at_J 61 (B 52)
  | 53 => at_J 61 (B 53)
  | 54 => at_J 61 (B 54)
  | 55 => at_J 61 (B 55)
  | 56 => at_J 31 (B 56)
  | 57 => at_J 31 (B 57)
  | 58 => at_I 48 (A 58)
  | 59 => at_I 6 (A 59)
  | 60 => at_I 64 (A 60)
  | 61 => at_I 64 (A 61)
  | 62 => at_I 4 (A 62)
  | 63 => at_I 256 (A 63)
  | 64 => at_I 64 (A 64)
  | 65 => at_I 31 (A 65)
  | 66 => at_I 31 (A 66)
  | 67 => at_I 31 (A 67)
  | _ => at_I 0 (A 0)
def pmM (h : pm_H) (mi : Nat → Int32) (ml : Nat → Int64) (A : Nat → Nat → Int32) (B : Nat → Nat → Int64) : pm_H := (h.1, fun q => if q = 44 then some (.inr (10, m_obj mi ml)) else if 45 ≤ q ∧ q ≤ 67 then some (m_cell A B q) else h.2 q)
section PMM
variable {h : pm_H} {mi : Nat → Int32} {ml : Nat → Int64} {A : Nat → Nat → Int32} {B : Nat → Nat → Int64}
theorem pmM_up {x : Nat} {c : pm_C} {A' : Nat → Nat → Int32} {B' : Nat → Nat → Int64} (hx : 45 ≤ x ∧ x ≤ 67) (hc : m_cell A' B' x = c) (ho : ∀ q, q ≠ x → m_cell A' B' q = m_cell A B q) : pm_up (pmM h mi ml A B) x c = pmM h mi ml A' B' := by
  refine Prod.ext rfl (funext fun q => ?_)
  show (if q = x then some c else if q = 44 then _ else if 45 ≤ q ∧ q ≤ 67 then _ else _) = if q = 44 then _ else if 45 ≤ q ∧ q ≤ 67 then some (m_cell A' B' q) else _
  by_cases e : q = x
  · subst e
    rw [if_pos rfl, if_neg (by omega), if_pos hx, hc]
  · rw [if_neg e, ho q e]
theorem pmM_44 {mi' : Nat → Int32} {ml' : Nat → Int64} {fs : List Value} (hc : m_obj mi' ml' = fs) : pm_up (pmM h mi ml A B) 44 (.inr (10, fs)) = pmM h mi' ml' A B := by
  refine Prod.ext rfl (funext fun q => ?_)
  show (if q = 44 then _ else if q = 44 then _ else _) = if q = 44 then _ else _
  by_cases e : q = 44
  · simp [e, hc]
  · simp [e]
theorem pmM_findings {f : Nat → Int32} : pm_up (pmM h mi ml A B) 45 (at_I 6 f) = pmM h mi ml (va_up A 45 f) B := pmM_up (by decide) rfl (fun q hq => by unfold m_cell; split <;> first | rfl | exact absurd rfl hq)
theorem pmM_kinds {f : Nat → Int32} : pm_up (pmM h mi ml A B) 46 (at_I 10 f) = pmM h mi ml (va_up A 46 f) B := pmM_up (by decide) rfl (fun q hq => by unfold m_cell; split <;> first | rfl | exact absurd rfl hq)
theorem pmM_sticks {f : Nat → Int32} : pm_up (pmM h mi ml A B) 47 (at_I 10 f) = pmM h mi ml (va_up A 47 f) B := pmM_up (by decide) rfl (fun q hq => by unfold m_cell; split <;> first | rfl | exact absurd rfl hq)
theorem pmM_counts {f : Nat → Int32} : pm_up (pmM h mi ml A B) 48 (at_I 10 f) = pmM h mi ml (va_up A 48 f) B := pmM_up (by decide) rfl (fun q hq => by unfold m_cell; split <;> first | rfl | exact absurd rfl hq)
theorem pmM_hasFinger {f : Nat → Int32} : pm_up (pmM h mi ml A B) 49 (at_Z 10 f) = pmM h mi ml (va_up A 49 f) B := pmM_up (by decide) rfl (fun q hq => by unfold m_cell; split <;> first | rfl | exact absurd rfl hq)
theorem pmM_lows {f : Nat → Int32} : pm_up (pmM h mi ml A B) 50 (at_I 10 f) = pmM h mi ml (va_up A 50 f) B := pmM_up (by decide) rfl (fun q hq => by unfold m_cell; split <;> first | rfl | exact absurd rfl hq)
theorem pmM_highs {f : Nat → Int32} : pm_up (pmM h mi ml A B) 51 (at_I 10 f) = pmM h mi ml (va_up A 51 f) B := pmM_up (by decide) rfl (fun q hq => by unfold m_cell; split <;> first | rfl | exact absurd rfl hq)
theorem pmM_ups {f : Nat → Int64} : pm_up (pmM h mi ml A B) 52 (at_J 61 f) = pmM h mi ml A (va_up B 52 f) := pmM_up (by decide) rfl (fun q hq => by unfold m_cell; split <;> first | rfl | exact absurd rfl hq)
theorem pmM_lowers {f : Nat → Int64} : pm_up (pmM h mi ml A B) 53 (at_J 61 f) = pmM h mi ml A (va_up B 53 f) := pmM_up (by decide) rfl (fun q hq => by unfold m_cell; split <;> first | rfl | exact absurd rfl hq)
theorem pmM_nextUps {f : Nat → Int64} : pm_up (pmM h mi ml A B) 54 (at_J 61 f) = pmM h mi ml A (va_up B 54 f) := pmM_up (by decide) rfl (fun q hq => by unfold m_cell; split <;> first | rfl | exact absurd rfl hq)
theorem pmM_nextLowers {f : Nat → Int64} : pm_up (pmM h mi ml A B) 55 (at_J 61 f) = pmM h mi ml A (va_up B 55 f) := pmM_up (by decide) rfl (fun q hq => by unfold m_cell; split <;> first | rfl | exact absurd rfl hq)
theorem pmM_oddsUp {f : Nat → Int64} : pm_up (pmM h mi ml A B) 56 (at_J 31 f) = pmM h mi ml A (va_up B 56 f) := pmM_up (by decide) rfl (fun q hq => by unfold m_cell; split <;> first | rfl | exact absurd rfl hq)
theorem pmM_oddsLow {f : Nat → Int64} : pm_up (pmM h mi ml A B) 57 (at_J 31 f) = pmM h mi ml A (va_up B 57 f) := pmM_up (by decide) rfl (fun q hq => by unfold m_cell; split <;> first | rfl | exact absurd rfl hq)
theorem pmM_figures {f : Nat → Int32} : pm_up (pmM h mi ml A B) 58 (at_I 48 f) = pmM h mi ml (va_up A 58 f) B := pmM_up (by decide) rfl (fun q hq => by unfold m_cell; split <;> first | rfl | exact absurd rfl hq)
theorem pmM_six {f : Nat → Int32} : pm_up (pmM h mi ml A B) 59 (at_I 6 f) = pmM h mi ml (va_up A 59 f) B := pmM_up (by decide) rfl (fun q hq => by unfold m_cell; split <;> first | rfl | exact absurd rfl hq)
theorem pmM_far {f : Nat → Int32} : pm_up (pmM h mi ml A B) 60 (at_I 64 f) = pmM h mi ml (va_up A 60 f) B := pmM_up (by decide) rfl (fun q hq => by unfold m_cell; split <;> first | rfl | exact absurd rfl hq)
theorem pmM_stepRow {f : Nat → Int32} : pm_up (pmM h mi ml A B) 61 (at_I 64 f) = pmM h mi ml (va_up A 61 f) B := pmM_up (by decide) rfl (fun q hq => by unfold m_cell; split <;> first | rfl | exact absurd rfl hq)
theorem pmM_sizes {f : Nat → Int32} : pm_up (pmM h mi ml A B) 62 (at_I 4 f) = pmM h mi ml (va_up A 62 f) B := pmM_up (by decide) rfl (fun q hq => by unfold m_cell; split <;> first | rfl | exact absurd rfl hq)
theorem pmM_rows {f : Nat → Int32} : pm_up (pmM h mi ml A B) 63 (at_I 256 f) = pmM h mi ml (va_up A 63 f) B := pmM_up (by decide) rfl (fun q hq => by unfold m_cell; split <;> first | rfl | exact absurd rfl hq)
theorem pmM_moving {f : Nat → Int32} : pm_up (pmM h mi ml A B) 64 (at_I 64 f) = pmM h mi ml (va_up A 64 f) B := pmM_up (by decide) rfl (fun q hq => by unfold m_cell; split <;> first | rfl | exact absurd rfl hq)
theorem pmM_times {f : Nat → Int32} : pm_up (pmM h mi ml A B) 65 (at_I 31 f) = pmM h mi ml (va_up A 65 f) B := pmM_up (by decide) rfl (fun q hq => by unfold m_cell; split <;> first | rfl | exact absurd rfl hq)
theorem pmM_shares {f : Nat → Int32} : pm_up (pmM h mi ml A B) 66 (at_I 31 f) = pmM h mi ml (va_up A 66 f) B := pmM_up (by decide) rfl (fun q hq => by unfold m_cell; split <;> first | rfl | exact absurd rfl hq)
theorem pmM_held {f : Nat → Int32} : pm_up (pmM h mi ml A B) 67 (at_I 31 f) = pmM h mi ml (va_up A 67 f) B := pmM_up (by decide) rfl (fun q hq => by unfold m_cell; split <;> first | rfl | exact absurd rfl hq)
theorem pmM_finding {x : Int32} : pm_up (pmM h mi ml A B) 44 (.inr (10, (m_obj mi ml).set 0 (.int x))) = pmM h (upd mi 0 x) ml A B := pmM_44 rfl
theorem pmM_casters {x : Int32} : pm_up (pmM h mi ml A B) 44 (.inr (10, (m_obj mi ml).set 5 (.int x))) = pmM h (upd mi 1 x) ml A B := pmM_44 rfl
theorem pmM_steps {x : Int32} : pm_up (pmM h mi ml A B) 44 (.inr (10, (m_obj mi ml).set 24 (.int x))) = pmM h (upd mi 2 x) ml A B := pmM_44 rfl
theorem pmM_counted {x : Int32} : pm_up (pmM h mi ml A B) 44 (.inr (10, (m_obj mi ml).set 30 (.int x))) = pmM h (upd mi 3 x) ml A B := pmM_44 rfl
theorem pmM_asked {x : Int64} : pm_up (pmM h mi ml A B) 44 (.inr (10, (m_obj mi ml).set 2 (.long x))) = pmM h mi (vp_updL ml 0 x) A B := pmM_44 rfl
theorem pmM_upper {x : Int64} : pm_up (pmM h mi ml A B) 44 (.inr (10, (m_obj mi ml).set 3 (.long x))) = pmM h mi (vp_updL ml 1 x) A B := pmM_44 rfl
theorem pmM_lower {x : Int64} : pm_up (pmM h mi ml A B) 44 (.inr (10, (m_obj mi ml).set 4 (.long x))) = pmM h mi (vp_updL ml 2 x) A B := pmM_44 rfl
theorem pmM_sumUp {x : Int64} : pm_up (pmM h mi ml A B) 44 (.inr (10, (m_obj mi ml).set 18 (.long x))) = pmM h mi (vp_updL ml 3 x) A B := pmM_44 rfl
theorem pmM_sumLow {x : Int64} : pm_up (pmM h mi ml A B) 44 (.inr (10, (m_obj mi ml).set 19 (.long x))) = pmM h mi (vp_updL ml 4 x) A B := pmM_44 rfl
theorem pmM_seed {x : Int64} : pm_up (pmM h mi ml A B) 44 (.inr (10, (m_obj mi ml).set 20 (.long x))) = pmM h mi (vp_updL ml 5 x) A B := pmM_44 rfl
end PMM
def sp_in (v lo hi : Int32) : Bool := decide (lo ≤ v ∧ v ≤ hi)
set_option maxRecDepth 10000 in
set_option maxHeartbeats 4000000 in
theorem c_X10_in {h : pm_H} {v lo hi : Int32} : pm_Cv e_X10_in [.int v, .int lo, .int hi] h (.int (nI (pm_bl (sp_in v lo hi)))) h := by
  refine pm_enter rfl (Nat.le_of_ble_eq_true rfl) ?_
  show pm_V e_X10_in 0 [some (.int v), some (.int lo), some (.int hi)] [] h (0, 0) _
  refine r_iload_0 d_X10_in_0 ?_
  refine r_iload_1 d_X10_in_1 ?_
  refine r_icmp_lt d_X10_in_2 (fun c2 => ?_) (fun c2 => ?_)
  · -- taken at 2
    have e : sp_in v lo hi = false := decide_eq_false (fun z => absurd z.1 (Int32.not_le.mpr c2))
    refine r_push d_X10_in_14 ?_
    refine r_ireturn d_X10_in_15 ⟨_, rfl, rfl⟩ ?_
    rw [e]
    exact ⟨rfl, rfl⟩
  · -- not taken at 2
    refine r_iload_0 d_X10_in_5 ?_
    refine r_iload_2 d_X10_in_6 ?_
    refine r_icmp_gt d_X10_in_7 (fun c7 => ?_) (fun c7 => ?_)
    · -- taken at 7
      have e : sp_in v lo hi = false := decide_eq_false (fun z => absurd z.2 (Int32.not_le.mpr c7))
      refine r_push d_X10_in_14 ?_
      refine r_ireturn d_X10_in_15 ⟨_, rfl, rfl⟩ ?_
      rw [e]
      exact ⟨rfl, rfl⟩
    · -- not taken at 7
      have e : sp_in v lo hi = true := decide_eq_true ⟨Int32.not_lt.mp c2, Int32.not_lt.mp c7⟩
      refine r_push d_X10_in_10 ?_
      refine r_goto d_X10_in_11 ?_
      refine r_ireturn d_X10_in_15 ⟨_, rfl, rfl⟩ ?_
      rw [e]
      exact ⟨rfl, rfl⟩
set_option maxRecDepth 10000 in
set_option maxHeartbeats 4000000 in
theorem c_X10_isFigure {h : pm_H} {v : Int32} : pm_Cv e_X10_isFigure [.int v] h (.int (nI (pm_bl (sp_in v 0 7)))) h := by
  refine pm_enter rfl (Nat.le_of_ble_eq_true rfl) ?_
  show pm_V e_X10_isFigure 0 [some (.int v)] [] h (0, 0) _
  refine r_iload_0 d_X10_isFigure_0 ?_
  refine r_push d_X10_isFigure_1 ?_
  refine r_push d_X10_isFigure_2 ?_
  refine r_S3 d_X10_isFigure_4 c_X10_in ⟨rfl, rfl⟩ (Nat.le_of_ble_eq_true rfl) ?_
  refine r_ireturn d_X10_isFigure_7 ⟨_, rfl, pm_blz _⟩ ?_
  exact ⟨rfl, rfl⟩
set_option maxRecDepth 10000 in
set_option maxHeartbeats 4000000 in
theorem c_X10_isRow {h : pm_H} {v : Int32} : pm_Cv e_X10_isRow [.int v] h (.int (nI (pm_bl (sp_in v 0 3)))) h := by
  refine pm_enter rfl (Nat.le_of_ble_eq_true rfl) ?_
  show pm_V e_X10_isRow 0 [some (.int v)] [] h (0, 0) _
  refine r_iload_0 d_X10_isRow_0 ?_
  refine r_push d_X10_isRow_1 ?_
  refine r_push d_X10_isRow_2 ?_
  refine r_S3 d_X10_isRow_3 c_X10_in ⟨rfl, rfl⟩ (Nat.le_of_ble_eq_true rfl) ?_
  refine r_ireturn d_X10_isRow_6 ⟨_, rfl, pm_blz _⟩ ?_
  exact ⟨rfl, rfl⟩
set_option maxRecDepth 10000 in
set_option maxHeartbeats 4000000 in
theorem c_X10_areStalks {h : pm_H} {n k : Int32} : pm_Cv e_X10_areStalks [.int n, .int k] h (.int (nI (pm_bl (sp_in n 4 60 && sp_in k 2 8)))) h := by
  refine pm_enter rfl (Nat.le_of_ble_eq_true rfl) ?_
  show pm_V e_X10_areStalks 0 [some (.int n), some (.int k)] [] h (0, 0) _
  refine r_iload_0 d_X10_areStalks_0 ?_
  refine r_push d_X10_areStalks_1 ?_
  refine r_push d_X10_areStalks_2 ?_
  refine r_S3 d_X10_areStalks_4 c_X10_in ⟨rfl, rfl⟩ (Nat.le_of_ble_eq_true rfl) ?_
  have q1 := pm_bl_le (sp_in n 4 60)
  refine r_if_eq d_X10_areStalks_7 (fun c7 => ?_) (fun c7 => ?_)
  · -- taken at 7
    have c7 : (pm_bl (sp_in n 4 60)) = 0 := (nI_eq (a := (pm_bl (sp_in n 4 60))) (b := 0) (by omega) (by omega)).mp c7
    have e : (sp_in n 4 60 && sp_in k 2 8) = false := by rw [pm_bl0.mp c7]; rfl
    refine r_push d_X10_areStalks_24 ?_
    refine r_ireturn d_X10_areStalks_25 ⟨_, rfl, rfl⟩ ?_
    rw [e]
    exact ⟨rfl, rfl⟩
  · -- not taken at 7
    have c7 : ¬ (pm_bl (sp_in n 4 60)) = 0 := fun zz9 => c7 ((nI_eq (a := (pm_bl (sp_in n 4 60))) (b := 0) (by omega) (by omega)).mpr zz9)
    refine r_iload_1 d_X10_areStalks_10 ?_
    refine r_push d_X10_areStalks_11 ?_
    refine r_push d_X10_areStalks_12 ?_
    refine r_S3 d_X10_areStalks_14 c_X10_in ⟨rfl, rfl⟩ (Nat.le_of_ble_eq_true rfl) ?_
    have q2 := pm_bl_le (sp_in k 2 8)
    refine r_if_eq d_X10_areStalks_17 (fun c17 => ?_) (fun c17 => ?_)
    · -- taken at 17
      have c17 : (pm_bl (sp_in k 2 8)) = 0 := (nI_eq (a := (pm_bl (sp_in k 2 8))) (b := 0) (by omega) (by omega)).mp c17
      have e : (sp_in n 4 60 && sp_in k 2 8) = false := by rw [pm_bl0.mp c17]; simp
      refine r_push d_X10_areStalks_24 ?_
      refine r_ireturn d_X10_areStalks_25 ⟨_, rfl, rfl⟩ ?_
      rw [e]
      exact ⟨rfl, rfl⟩
    · -- not taken at 17
      have c17 : ¬ (pm_bl (sp_in k 2 8)) = 0 := fun zz9 => c17 ((nI_eq (a := (pm_bl (sp_in k 2 8))) (b := 0) (by omega) (by omega)).mpr zz9)
      have e : (sp_in n 4 60 && sp_in k 2 8) = true := by rw [pm_bl1 c7, pm_bl1 c17]; rfl
      refine r_push d_X10_areStalks_20 ?_
      refine r_goto d_X10_areStalks_21 ?_
      refine r_ireturn d_X10_areStalks_25 ⟨_, rfl, rfl⟩ ?_
      rw [e]
      exact ⟨rfl, rfl⟩
set_option maxRecDepth 10000 in
set_option maxHeartbeats 4000000 in
theorem c_X10_meets {h : pm_H} {mi : Nat → Int32} {ml : Nat → Int64} {A : Nat → Nat → Int32} {B : Nat → Nat → Int64} {w : Nat} (hw : w < 6) : pm_Cv e_X10_meets [.ref 44, .int (nI w)] (pmM h mi ml A B) (.int (-3)) (pmM h (upd mi 0 (nI w)) ml (va_up A 45 (upd (A 45) w (A 45 w + 1))) B) := by
  refine pm_enter rfl (Nat.le_of_ble_eq_true rfl) ?_
  show pm_V e_X10_meets 0 [some (.ref 44), some (.int (nI w))] [] (pmM h mi ml A B) (0, 0) _
  refine r_aload_0 d_X10_meets_0 ?_
  refine r_iload_1 d_X10_meets_1 ?_
  refine r_put d_X10_meets_2 s10_finding rfl (Nat.le_of_ble_eq_true rfl) ⟨rfl, rfl⟩ ?_
  rw [pmM_finding]
  refine r_aload_0 d_X10_meets_5 ?_
  refine r_get d_X10_meets_6 s10_findings rfl rfl ?_
  refine r_iload_1 d_X10_meets_9 ?_
  refine r_dup2 d_X10_meets_10 rfl rfl ?_
  refine r_iald d_X10_meets_11 rfl (pm_ixN hw (by decide)) ?_
  refine r_push (v := nI 1) d_X10_meets_12 ?_
  refine r_iadd d_X10_meets_13 ?_
  refine r_iast d_X10_meets_14 rfl (pm_ixN hw (by decide)) ?_
  rw [pmM_findings]
  refine r_push d_X10_meets_15 ?_
  refine r_ireturn d_X10_meets_17 ⟨_, rfl, rfl⟩ ?_
  exact ⟨rfl, rfl⟩
set_option maxRecDepth 10000 in
set_option maxHeartbeats 4000000 in
theorem lp_X10_divisor {h : pm_H} {a9 b9 : Int64} {F : Option Value → pm_H → Prop} {b : Nat × Nat} : ∀ (m x y : Nat) (o : Option Value), y ≤ m → x < 2 ^ 62 → y < 2 ^ 62 → F (some (.long (lN (Nat.gcd y x)))) h → pm_V e_X10_divisor 6 [some (.long a9), none, some (.long b9), none, some (.long (lN x)), none, some (.long (lN y)), none, o, none] [] h b F := by
  intro m
  induction m with
  | zero =>
    intro x y o hm hx hy hF
    obtain rfl : y = 0 := by omega
    rw [Nat.gcd_zero_left] at hF
    refine r_lload_6 d_X10_divisor_6 ?_
    refine r_pushl (v := lN 0) d_X10_divisor_8 ?_
    refine r_lcmp d_X10_divisor_9 ?_
    refine r_if_eq d_X10_divisor_10 (fun c10 => ?_) (fun c10 => ?_)
    · -- taken at 10
      have c10 : 0 = 0 := ((lg_cmp_eq (lN (0)) (lN (0))).trans (pk_lEQ (a := 0) (b := 0) (by omega) (by omega))).mp c10
      refine r_lload_4 d_X10_divisor_31 ?_
      refine r_lreturn d_X10_divisor_33 rfl ?_
      exact hF
    · -- not taken at 10
      have c10 : ¬ 0 = 0 := fun zz9 => c10 (((lg_cmp_eq (lN (0)) (lN (0))).trans (pk_lEQ (a := 0) (b := 0) (by omega) (by omega))).mpr zz9)
      exact absurd rfl c10
  | succ m ih =>
    intro x y o hm hx hy hF
    have hq := fun z => Nat.mod_lt x (Nat.pos_of_ne_zero (n := y) z)
    refine r_lload_6 d_X10_divisor_6 ?_
    refine r_pushl (v := lN 0) d_X10_divisor_8 ?_
    refine r_lcmp d_X10_divisor_9 ?_
    refine r_if_eq d_X10_divisor_10 (fun c10 => ?_) (fun c10 => ?_)
    · -- taken at 10
      have c10 : y = 0 := ((lg_cmp_eq (lN (y)) (lN (0))).trans (pk_lEQ (a := y) (b := 0) (by omega) (by omega))).mp c10
      subst c10
      rw [Nat.gcd_zero_left] at hF
      refine r_lload_4 d_X10_divisor_31 ?_
      refine r_lreturn d_X10_divisor_33 rfl ?_
      exact hF
    · -- not taken at 10
      have c10 : ¬ y = 0 := fun zz9 => c10 (((lg_cmp_eq (lN (y)) (lN (0))).trans (pk_lEQ (a := y) (b := 0) (by omega) (by omega))).mpr zz9)
      have hq := hq c10
      rw [Nat.gcd_rec] at hF
      refine r_lload_4 d_X10_divisor_13 ?_
      refine r_lload_6 d_X10_divisor_15 ?_
      refine r_lrem d_X10_divisor_17 (pm_lne0 (n := y) (by omega) (by omega)) ?_
      rw [pk_lRem (a := x) (b := y) (by omega) (by omega) (by omega)]
      refine r_lstore_8 d_X10_divisor_18 (Nat.le_of_ble_eq_true rfl) (fun w hw => by cases hw <;> rfl) ?_
      refine r_lload_6 d_X10_divisor_20 ?_
      refine r_lstore_4 d_X10_divisor_22 (Nat.le_of_ble_eq_true rfl) (fun w hw => by cases hw <;> rfl) ?_
      refine r_lload_8 d_X10_divisor_24 ?_
      refine r_lstore_6 d_X10_divisor_26 (Nat.le_of_ble_eq_true rfl) (fun w hw => by cases hw <;> rfl) ?_
      refine r_goto d_X10_divisor_28 ?_
      exact ih y (x % y) _ (by omega) hy (by omega) hF
set_option maxRecDepth 10000 in
set_option maxHeartbeats 4000000 in
theorem c_X10_divisor {h : pm_H} {x y : Nat} (hx : x < 2 ^ 62) (hy : y < 2 ^ 62) : pm_Cv e_X10_divisor [.long (lN x), .long (lN y)] h (.long (lN (Nat.gcd y x))) h := by
  refine pm_enter rfl (Nat.le_of_ble_eq_true rfl) ?_
  show pm_V e_X10_divisor 0 [some (.long (lN x)), none, some (.long (lN y)), none, none, none, none, none, none, none] [] h (0, 0) _
  refine r_lload_0 d_X10_divisor_0 ?_
  refine r_lstore_4 d_X10_divisor_1 (Nat.le_of_ble_eq_true rfl) (fun w hw => by cases hw <;> rfl) ?_
  refine r_lload_2 d_X10_divisor_3 ?_
  refine r_lstore_6 d_X10_divisor_4 (Nat.le_of_ble_eq_true rfl) (fun w hw => by cases hw <;> rfl) ?_
  exact lp_X10_divisor y x y none (Nat.le_refl y) hx hy ⟨rfl, rfl⟩
set_option maxRecDepth 10000 in
set_option maxHeartbeats 4000000 in
theorem c_X10_turned {h : pm_H} {x : Nat} (hx : x < 64) : pm_Cv e_X10_turned [.int (nI x)] h (.int (nI (sp_turn x))) h := by
  refine pm_enter rfl (Nat.le_of_ble_eq_true rfl) ?_
  show pm_V e_X10_turned 0 [some (.int (nI x)), none, none] [] h (0, 0) _
  refine r_push (v := nI 0) d_X10_turned_0 ?_
  refine r_istore_1 d_X10_turned_1 (Nat.le_of_ble_eq_true rfl) (fun w hw => by cases hw <;> rfl) ?_
  refine r_push (v := nI 0) d_X10_turned_2 ?_
  refine r_istore_2 d_X10_turned_3 (Nat.le_of_ble_eq_true rfl) (fun w hw => by cases hw <;> rfl) ?_
  refine r_iload_2 d_X10_turned_4 ?_
  refine r_push (v := nI 6) d_X10_turned_5 ?_
  refine r_icmp_ge d_X10_turned_7 (fun c7 => absurd c7 (by decide)) (fun c7 => ?_)
  clear c7
  refine r_iload_1 d_X10_turned_10 ?_
  refine r_iload_0 d_X10_turned_11 ?_
  refine r_iload_2 d_X10_turned_12 ?_
  refine r_ishr d_X10_turned_13 ?_
  refine r_push (v := nI 1) d_X10_turned_14 ?_
  refine r_iand d_X10_turned_15 ?_
  refine r_push (v := nI 5) d_X10_turned_16 ?_
  refine r_iload_2 d_X10_turned_17 ?_
  refine r_isub d_X10_turned_18 ?_
  rw [show nI 5 - nI 0 = nI 5 from rfl]
  refine r_ishl d_X10_turned_19 ?_
  refine r_ior d_X10_turned_20 ?_
  refine r_istore_1 d_X10_turned_21 (Nat.le_of_ble_eq_true rfl) (fun w hw => by cases hw <;> rfl) ?_
  refine r_iinc_2 d_X10_turned_22 (Nat.le_of_ble_eq_true rfl) (fun w hw => by cases hw <;> rfl) ?_
  rw [show nI 0 + 1 = nI 1 from rfl]
  refine r_goto d_X10_turned_25 ?_
  refine r_iload_2 d_X10_turned_4 ?_
  refine r_push (v := nI 6) d_X10_turned_5 ?_
  refine r_icmp_ge d_X10_turned_7 (fun c7 => absurd c7 (by decide)) (fun c7 => ?_)
  clear c7
  refine r_iload_1 d_X10_turned_10 ?_
  refine r_iload_0 d_X10_turned_11 ?_
  refine r_iload_2 d_X10_turned_12 ?_
  refine r_ishr d_X10_turned_13 ?_
  refine r_push (v := nI 1) d_X10_turned_14 ?_
  refine r_iand d_X10_turned_15 ?_
  refine r_push (v := nI 5) d_X10_turned_16 ?_
  refine r_iload_2 d_X10_turned_17 ?_
  refine r_isub d_X10_turned_18 ?_
  rw [show nI 5 - nI 1 = nI 4 from rfl]
  refine r_ishl d_X10_turned_19 ?_
  refine r_ior d_X10_turned_20 ?_
  refine r_istore_1 d_X10_turned_21 (Nat.le_of_ble_eq_true rfl) (fun w hw => by cases hw <;> rfl) ?_
  refine r_iinc_2 d_X10_turned_22 (Nat.le_of_ble_eq_true rfl) (fun w hw => by cases hw <;> rfl) ?_
  rw [show nI 1 + 1 = nI 2 from rfl]
  refine r_goto d_X10_turned_25 ?_
  refine r_iload_2 d_X10_turned_4 ?_
  refine r_push (v := nI 6) d_X10_turned_5 ?_
  refine r_icmp_ge d_X10_turned_7 (fun c7 => absurd c7 (by decide)) (fun c7 => ?_)
  clear c7
  refine r_iload_1 d_X10_turned_10 ?_
  refine r_iload_0 d_X10_turned_11 ?_
  refine r_iload_2 d_X10_turned_12 ?_
  refine r_ishr d_X10_turned_13 ?_
  refine r_push (v := nI 1) d_X10_turned_14 ?_
  refine r_iand d_X10_turned_15 ?_
  refine r_push (v := nI 5) d_X10_turned_16 ?_
  refine r_iload_2 d_X10_turned_17 ?_
  refine r_isub d_X10_turned_18 ?_
  rw [show nI 5 - nI 2 = nI 3 from rfl]
  refine r_ishl d_X10_turned_19 ?_
  refine r_ior d_X10_turned_20 ?_
  refine r_istore_1 d_X10_turned_21 (Nat.le_of_ble_eq_true rfl) (fun w hw => by cases hw <;> rfl) ?_
  refine r_iinc_2 d_X10_turned_22 (Nat.le_of_ble_eq_true rfl) (fun w hw => by cases hw <;> rfl) ?_
  rw [show nI 2 + 1 = nI 3 from rfl]
  refine r_goto d_X10_turned_25 ?_
  refine r_iload_2 d_X10_turned_4 ?_
  refine r_push (v := nI 6) d_X10_turned_5 ?_
  refine r_icmp_ge d_X10_turned_7 (fun c7 => absurd c7 (by decide)) (fun c7 => ?_)
  clear c7
  refine r_iload_1 d_X10_turned_10 ?_
  refine r_iload_0 d_X10_turned_11 ?_
  refine r_iload_2 d_X10_turned_12 ?_
  refine r_ishr d_X10_turned_13 ?_
  refine r_push (v := nI 1) d_X10_turned_14 ?_
  refine r_iand d_X10_turned_15 ?_
  refine r_push (v := nI 5) d_X10_turned_16 ?_
  refine r_iload_2 d_X10_turned_17 ?_
  refine r_isub d_X10_turned_18 ?_
  rw [show nI 5 - nI 3 = nI 2 from rfl]
  refine r_ishl d_X10_turned_19 ?_
  refine r_ior d_X10_turned_20 ?_
  refine r_istore_1 d_X10_turned_21 (Nat.le_of_ble_eq_true rfl) (fun w hw => by cases hw <;> rfl) ?_
  refine r_iinc_2 d_X10_turned_22 (Nat.le_of_ble_eq_true rfl) (fun w hw => by cases hw <;> rfl) ?_
  rw [show nI 3 + 1 = nI 4 from rfl]
  refine r_goto d_X10_turned_25 ?_
  refine r_iload_2 d_X10_turned_4 ?_
  refine r_push (v := nI 6) d_X10_turned_5 ?_
  refine r_icmp_ge d_X10_turned_7 (fun c7 => absurd c7 (by decide)) (fun c7 => ?_)
  clear c7
  refine r_iload_1 d_X10_turned_10 ?_
  refine r_iload_0 d_X10_turned_11 ?_
  refine r_iload_2 d_X10_turned_12 ?_
  refine r_ishr d_X10_turned_13 ?_
  refine r_push (v := nI 1) d_X10_turned_14 ?_
  refine r_iand d_X10_turned_15 ?_
  refine r_push (v := nI 5) d_X10_turned_16 ?_
  refine r_iload_2 d_X10_turned_17 ?_
  refine r_isub d_X10_turned_18 ?_
  rw [show nI 5 - nI 4 = nI 1 from rfl]
  refine r_ishl d_X10_turned_19 ?_
  refine r_ior d_X10_turned_20 ?_
  refine r_istore_1 d_X10_turned_21 (Nat.le_of_ble_eq_true rfl) (fun w hw => by cases hw <;> rfl) ?_
  refine r_iinc_2 d_X10_turned_22 (Nat.le_of_ble_eq_true rfl) (fun w hw => by cases hw <;> rfl) ?_
  rw [show nI 4 + 1 = nI 5 from rfl]
  refine r_goto d_X10_turned_25 ?_
  refine r_iload_2 d_X10_turned_4 ?_
  refine r_push (v := nI 6) d_X10_turned_5 ?_
  refine r_icmp_ge d_X10_turned_7 (fun c7 => absurd c7 (by decide)) (fun c7 => ?_)
  clear c7
  refine r_iload_1 d_X10_turned_10 ?_
  refine r_iload_0 d_X10_turned_11 ?_
  refine r_iload_2 d_X10_turned_12 ?_
  refine r_ishr d_X10_turned_13 ?_
  refine r_push (v := nI 1) d_X10_turned_14 ?_
  refine r_iand d_X10_turned_15 ?_
  refine r_push (v := nI 5) d_X10_turned_16 ?_
  refine r_iload_2 d_X10_turned_17 ?_
  refine r_isub d_X10_turned_18 ?_
  rw [show nI 5 - nI 5 = nI 0 from rfl]
  refine r_ishl d_X10_turned_19 ?_
  refine r_ior d_X10_turned_20 ?_
  refine r_istore_1 d_X10_turned_21 (Nat.le_of_ble_eq_true rfl) (fun w hw => by cases hw <;> rfl) ?_
  refine r_iinc_2 d_X10_turned_22 (Nat.le_of_ble_eq_true rfl) (fun w hw => by cases hw <;> rfl) ?_
  rw [show nI 5 + 1 = nI 6 from rfl]
  refine r_goto d_X10_turned_25 ?_
  refine r_iload_2 d_X10_turned_4 ?_
  refine r_push (v := nI 6) d_X10_turned_5 ?_
  refine r_icmp_ge d_X10_turned_7 (fun c7 => ?_) (fun c7 => absurd (by decide) c7)
  clear c7
  refine r_iload_1 d_X10_turned_28 ?_
  refine r_ireturn d_X10_turned_29 ⟨_, rfl, rfl⟩ ?_
  refine ⟨?_, rfl⟩; revert hx; revert x; decide +kernel
set_option maxRecDepth 10000 in
set_option maxHeartbeats 4000000 in
theorem c_X10_nestedAt {h : pm_H} {x : Nat} (hx : x < 6) : pm_Cv e_X10_nestedAt [.int (nI x)] h (.int (nI (if x < 3 then x + 1 else x - 1))) h := by
  refine pm_enter rfl (Nat.le_of_ble_eq_true rfl) ?_
  show pm_V e_X10_nestedAt 0 [some (.int (nI x))] [] h (0, 0) _
  refine r_iload_0 d_X10_nestedAt_0 ?_
  refine r_push (v := nI 3) d_X10_nestedAt_1 ?_
  refine r_icmp_ge d_X10_nestedAt_2 (fun c2 => ?_) (fun c2 => ?_)
  · -- taken at 2
    have c2 : 3 ≤ x := (nI_leI (a := 3) (b := x) (by omega) (by omega)).mp c2
    refine r_iload_0 d_X10_nestedAt_11 ?_
    refine r_push (v := nI 1) d_X10_nestedAt_12 ?_
    refine r_isub d_X10_nestedAt_13 ?_
    rw [pk_sub (a := x) (b := 1) (by omega)]
    refine r_ireturn d_X10_nestedAt_14 ⟨_, rfl, rfl⟩ ?_
    exact ⟨congrArg (fun z => some (Value.int (nI z))) (by split <;> omega), rfl⟩
  · -- not taken at 2
    have c2 : ¬ 3 ≤ x := fun zz9 => c2 ((nI_leI (a := 3) (b := x) (by omega) (by omega)).mpr zz9)
    refine r_iload_0 d_X10_nestedAt_5 ?_
    refine r_push (v := nI 1) d_X10_nestedAt_6 ?_
    refine r_iadd d_X10_nestedAt_7 ?_
    rw [nI_add]
    refine r_goto d_X10_nestedAt_8 ?_
    refine r_ireturn d_X10_nestedAt_14 ⟨_, rfl, rfl⟩ ?_
    exact ⟨congrArg (fun z => some (Value.int (nI z))) (by split <;> omega), rfl⟩
set_option maxRecDepth 10000 in
set_option maxHeartbeats 4000000 in
theorem c_X10_rest {h : pm_H} {x k : Nat} (hx : x ≤ 60) (hk : 2 ≤ k ∧ k ≤ 8) : pm_Cv e_X10_rest [.int (nI x), .int (nI k)] h (.int (nI (sp_rest k x))) h := by
  have hm := Nat.mod_lt x (show 0 < k by omega)
  refine pm_enter rfl (Nat.le_of_ble_eq_true rfl) ?_
  show pm_V e_X10_rest 0 [some (.int (nI x)), some (.int (nI k))] [] h (0, 0) _
  refine r_iload_0 d_X10_rest_0 ?_
  refine r_if_ne d_X10_rest_1 (fun c1 => ?_) (fun c1 => ?_)
  · -- taken at 1
    have c1 : ¬ x = 0 := fun zz9 => c1 ((nI_eq (a := x) (b := 0) (by omega) (by omega)).mpr zz9)
    refine r_iload_0 d_X10_rest_8 ?_
    refine r_iload_1 d_X10_rest_9 ?_
    refine r_irem d_X10_rest_10 (nI_ne0 (n := k) (by omega) (by omega)) ?_
    rw [pk_rem (a := x) (d := k) (by omega) (by omega) (by omega)]
    refine r_if_ne d_X10_rest_11 (fun c11 => ?_) (fun c11 => ?_)
    · -- taken at 11
      have c11 : ¬ (x % k) = 0 := fun zz9 => c11 ((nI_eq (a := (x % k)) (b := 0) (by omega) (by omega)).mpr zz9)
      refine r_iload_0 d_X10_rest_18 ?_
      refine r_iload_1 d_X10_rest_19 ?_
      refine r_irem d_X10_rest_20 (nI_ne0 (n := k) (by omega) (by omega)) ?_
      rw [pk_rem (a := x) (d := k) (by omega) (by omega) (by omega)]
      refine r_ireturn d_X10_rest_21 ⟨_, rfl, rfl⟩ ?_
      exact ⟨congrArg (fun z => some (Value.int (nI z))) (by unfold sp_rest; split <;> (try split) <;> omega), rfl⟩
    · -- not taken at 11
      have c11 : (x % k) = 0 := (nI_eq (a := (x % k)) (b := 0) (by omega) (by omega)).mp c11
      refine r_iload_1 d_X10_rest_14 ?_
      refine r_goto d_X10_rest_15 ?_
      refine r_ireturn d_X10_rest_21 ⟨_, rfl, rfl⟩ ?_
      exact ⟨congrArg (fun z => some (Value.int (nI z))) (by unfold sp_rest; split <;> (try split) <;> omega), rfl⟩
  · -- not taken at 1
    have c1 : x = 0 := (nI_eq (a := x) (b := 0) (by omega) (by omega)).mp c1
    refine r_push (v := nI 0) d_X10_rest_4 ?_
    refine r_goto d_X10_rest_5 ?_
    refine r_ireturn d_X10_rest_21 ⟨_, rfl, rfl⟩ ?_
    exact ⟨congrArg (fun z => some (Value.int (nI z))) (by unfold sp_rest; split <;> (try split) <;> omega), rfl⟩
