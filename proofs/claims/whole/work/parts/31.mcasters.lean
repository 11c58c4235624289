/-- a number that may name one of cn things -/
def pm_ci (c : Int32) (cn : Nat) : Option Nat := if 0 ≤ c ∧ c < nI cn then some c.toNatClampNeg else none
theorem pm_ci_some {c : Int32} {cn j : Nat} (hn : cn < 2 ^ 31) (h : pm_ci c cn = some j) : j < cn ∧ c = nI j := by
  unfold pm_ci at h
  split at h
  · next hq =>
    obtain ⟨y, hy, e⟩ := pm_rng (x := c) (n := cn) (Int32.not_lt.mpr hq.1) (Int32.not_le.mpr hq.2) hn
    rw [e, nI_clamp (by omega)] at h
    cases h
    exact ⟨hy, e⟩
  · cases h
theorem pm_ci_none {c : Int32} {cn : Nat} (h : pm_ci c cn = none) : ¬ (0 ≤ c ∧ c < nI cn) := by
  unfold pm_ci at h
  split at h
  · cases h
  · assumption
theorem pm_ci_of {j cn : Nat} (hj : j < cn) (hn : cn < 2 ^ 31) : pm_ci (nI j) cn = some j := by
  unfold pm_ci
  rw [if_pos ⟨nI_pos' (by omega), (nI_ltI (by omega) hn).mpr hj⟩, nI_clamp (by omega)]
theorem sp_in_ci : ∀ (c : Int32) (cn : Nat), cn < 65 → sp_in c 0 (nI cn - 1) = (pm_ci c cn).isSome := by
  intro c cn hn
  unfold sp_in pm_ci
  have e : (c ≤ nI cn - 1) ↔ c < nI cn := by
    have h1 : (nI cn - 1).toInt = (cn : Int) - 1 := by
      have : ∀ n, n < 65 → (nI n - 1).toInt = (n : Int) - 1 := by decide +kernel
      exact this cn hn
    have h2 : (nI cn).toInt = (cn : Int) := nI_toInt (by omega)
    rw [Int32.le_iff_toInt_le, Int32.lt_iff_toInt_lt, h1, h2]
    omega
  by_cases hq : 0 ≤ c ∧ c < nI cn
  · rw [if_pos hq]
    exact decide_eq_true ⟨hq.1, e.mpr hq.2⟩
  · rw [if_neg hq]
    exact decide_eq_false (fun z => hq ⟨z.1, e.mp z.2⟩)
def m_sk (A : Nat → Nat → Int32) (c k f lo hi : Nat) : Prop := 2 ≤ k ∧ k ≤ 8 ∧ f ≤ 1 ∧ 1 ≤ lo ∧ lo ≤ hi ∧ hi ≤ 59 ∧ A 48 c = nI k ∧ A 49 c = nI f ∧ A 50 c = nI lo ∧ A 51 c = nI hi
set_option maxRecDepth 10000 in
set_option maxHeartbeats 4000000 in
theorem c_X10_isCaster {h : pm_H} {mi : Nat → Int32} {ml : Nat → Int64} {A : Nat → Nat → Int32} {B : Nat → Nat → Int64} {c : Int32} {cn : Nat} (hcn : mi 1 = nI cn) (hn : cn ≤ 10) : pm_Cv e_X10_isCaster [.ref 44, .int c] (pmM h mi ml A B) (.int (nI (pm_bl (pm_ci c cn).isSome))) (pmM h mi ml A B) := by
  refine pm_enter rfl (Nat.le_of_ble_eq_true rfl) ?_
  show pm_V e_X10_isCaster 0 [some (.ref 44), some (.int c)] [] (pmM h mi ml A B) (0, 0) _
  refine r_iload_1 d_X10_isCaster_0 ?_
  refine r_push d_X10_isCaster_1 ?_
  refine r_aload_0 d_X10_isCaster_2 ?_
  refine r_get d_X10_isCaster_3 s10_casters rfl rfl ?_
  refine r_push d_X10_isCaster_6 ?_
  refine r_isub d_X10_isCaster_7 ?_
  rw [hcn]
  refine r_S3 d_X10_isCaster_8 c_X10_in ⟨rfl, rfl⟩ (Nat.le_of_ble_eq_true rfl) ?_
  rw [sp_in_ci _ _ (by omega)]
  refine r_ireturn d_X10_isCaster_11 ⟨_, rfl, pm_blz _⟩ ?_
  exact ⟨rfl, rfl⟩
set_option maxRecDepth 10000 in
set_option maxHeartbeats 4000000 in
theorem c_X10_left {h : pm_H} {mi : Nat → Int32} {ml : Nat → Int64} {A : Nat → Nat → Int32} {B : Nat → Nat → Int64} {c k f lo hi : Nat} (hc : c < 10) (hs : m_sk A c k f lo hi) {n x : Nat} (hn : n ≤ 60) (hx : 1 ≤ x ∧ x < n) : pm_Cv e_X10_left [.ref 44, .int (nI c), .int (nI n), .int (nI x)] (pmM h mi ml A B) (.int (nI (sp_left k f n x))) (pmM h mi ml A B) := by
  obtain ⟨g3, g4, g5, g6, g7, g8, s1, s2, s3, s4⟩ := hs
  have r1 := sp_rest_le (k := k) (x := x) (by omega)
  have r2 := sp_rest_le (k := k) (x := n - x - f) (by omega)
  have en : n - f - x = n - x - f := by omega
  refine pm_enter rfl (Nat.le_of_ble_eq_true rfl) ?_
  show pm_V e_X10_left 0 [some (.ref 44), some (.int (nI c)), some (.int (nI n)), some (.int (nI x)), none] [] (pmM h mi ml A B) (0, 0) _
  refine r_iload_2 d_X10_left_0 ?_
  refine r_iload_3 d_X10_left_1 ?_
  refine r_isub d_X10_left_2 ?_
  rw [pk_sub (a := n) (b := x) (by omega)]
  refine r_aload_0 d_X10_left_3 ?_
  refine r_get d_X10_left_4 s10_hasFinger rfl rfl ?_
  refine r_iload_1 d_X10_left_7 ?_
  refine r_zald d_X10_left_8 rfl (pm_ixN hc (by decide)) ?_
  rw [s2]
  refine r_if_eq d_X10_left_9 (fun c9 => ?_) (fun c9 => ?_)
  · -- taken at 9
    have c9 : f = 0 := (nI_eq (a := f) (b := 0) (by omega) (by omega)).mp c9
    refine r_push (v := nI 0) d_X10_left_16 ?_
    have ef : f = 0 := by omega
    subst ef
    refine r_isub d_X10_left_17 ?_
    rw [pk_sub (a := (n - x)) (b := 0) (by omega)]
    refine r_istore_4 d_X10_left_18 (Nat.le_of_ble_eq_true rfl) (fun w hw => by cases hw <;> rfl) ?_
    refine r_iload_3 d_X10_left_20 ?_
    refine r_iload_3 d_X10_left_21 ?_
    refine r_aload_0 d_X10_left_22 ?_
    refine r_get d_X10_left_23 s10_counts rfl rfl ?_
    refine r_iload_1 d_X10_left_26 ?_
    refine r_iald d_X10_left_27 rfl (pm_ixN hc (by decide)) ?_
    rw [s1]
    refine r_S2 d_X10_left_28 (c_X10_rest (by omega) ⟨g3, g4⟩) ⟨rfl, rfl⟩ (Nat.le_of_ble_eq_true rfl) ?_
    refine r_isub d_X10_left_31 ?_
    rw [pk_sub (a := x) (b := (sp_rest k x)) (by omega)]
    refine r_iload_4 d_X10_left_32 ?_
    refine r_iadd d_X10_left_34 ?_
    rw [nI_add]
    refine r_iload_4 d_X10_left_35 ?_
    refine r_aload_0 d_X10_left_37 ?_
    refine r_get d_X10_left_38 s10_counts rfl rfl ?_
    refine r_iload_1 d_X10_left_41 ?_
    refine r_iald d_X10_left_42 rfl (pm_ixN hc (by decide)) ?_
    rw [s1]
    refine r_S2 d_X10_left_43 (c_X10_rest (by omega) ⟨g3, g4⟩) ⟨rfl, rfl⟩ (Nat.le_of_ble_eq_true rfl) ?_
    refine r_isub d_X10_left_46 ?_
    rw [pk_sub (a := ((x - (sp_rest k x)) + ((n - x) - 0))) (b := (sp_rest k (n - x - 0))) (by omega)]
    refine r_ireturn d_X10_left_47 ⟨_, rfl, rfl⟩ ?_
    exact ⟨congrArg (fun z => some (Value.int (nI z))) (by unfold sp_left; rw [en]), rfl⟩
  · -- not taken at 9
    have c9 : ¬ f = 0 := fun zz9 => c9 ((nI_eq (a := f) (b := 0) (by omega) (by omega)).mpr zz9)
    refine r_push (v := nI 1) d_X10_left_12 ?_
    refine r_goto d_X10_left_13 ?_
    have ef : f = 1 := by omega
    subst ef
    refine r_isub d_X10_left_17 ?_
    rw [pk_sub (a := (n - x)) (b := 1) (by omega)]
    refine r_istore_4 d_X10_left_18 (Nat.le_of_ble_eq_true rfl) (fun w hw => by cases hw <;> rfl) ?_
    refine r_iload_3 d_X10_left_20 ?_
    refine r_iload_3 d_X10_left_21 ?_
    refine r_aload_0 d_X10_left_22 ?_
    refine r_get d_X10_left_23 s10_counts rfl rfl ?_
    refine r_iload_1 d_X10_left_26 ?_
    refine r_iald d_X10_left_27 rfl (pm_ixN hc (by decide)) ?_
    rw [s1]
    refine r_S2 d_X10_left_28 (c_X10_rest (by omega) ⟨g3, g4⟩) ⟨rfl, rfl⟩ (Nat.le_of_ble_eq_true rfl) ?_
    refine r_isub d_X10_left_31 ?_
    rw [pk_sub (a := x) (b := (sp_rest k x)) (by omega)]
    refine r_iload_4 d_X10_left_32 ?_
    refine r_iadd d_X10_left_34 ?_
    rw [nI_add]
    refine r_iload_4 d_X10_left_35 ?_
    refine r_aload_0 d_X10_left_37 ?_
    refine r_get d_X10_left_38 s10_counts rfl rfl ?_
    refine r_iload_1 d_X10_left_41 ?_
    refine r_iald d_X10_left_42 rfl (pm_ixN hc (by decide)) ?_
    rw [s1]
    refine r_S2 d_X10_left_43 (c_X10_rest (by omega) ⟨g3, g4⟩) ⟨rfl, rfl⟩ (Nat.le_of_ble_eq_true rfl) ?_
    refine r_isub d_X10_left_46 ?_
    rw [pk_sub (a := ((x - (sp_rest k x)) + ((n - x) - 1))) (b := (sp_rest k (n - x - 1))) (by omega)]
    refine r_ireturn d_X10_left_47 ⟨_, rfl, rfl⟩ ?_
    exact ⟨congrArg (fun z => some (Value.int (nI z))) (by unfold sp_left; rw [en]), rfl⟩
set_option maxRecDepth 10000 in
set_option maxHeartbeats 4000000 in
theorem c_X10_first {h : pm_H} {mi : Nat → Int32} {ml : Nat → Int64} {A : Nat → Nat → Int32} {B : Nat → Nat → Int64} {c k f lo hi : Nat} (hc : c < 10) (hs : m_sk A c k f lo hi) {n : Nat} (hn : 2 ≤ n ∧ n ≤ 60) : pm_Cv e_X10_first [.ref 44, .int (nI c), .int (nI n)] (pmM h mi ml A B) (.int (nI (sp_first lo n))) (pmM h mi ml A B) := by
  obtain ⟨g3, g4, g5, g6, g7, g8, s1, s2, s3, s4⟩ := hs
  refine pm_enter rfl (Nat.le_of_ble_eq_true rfl) ?_
  show pm_V e_X10_first 0 [some (.ref 44), some (.int (nI c)), some (.int (nI n))] [] (pmM h mi ml A B) (0, 0) _
  refine r_aload_0 d_X10_first_0 ?_
  refine r_get d_X10_first_1 s10_lows rfl rfl ?_
  refine r_iload_1 d_X10_first_4 ?_
  refine r_iald d_X10_first_5 rfl (pm_ixN hc (by decide)) ?_
  rw [s3]
  refine r_iload_2 d_X10_first_6 ?_
  refine r_push (v := nI 1) d_X10_first_7 ?_
  refine r_isub d_X10_first_8 ?_
  rw [pk_sub (a := n) (b := 1) (by omega)]
  refine r_icmp_le d_X10_first_9 (fun c9 => ?_) (fun c9 => ?_)
  · -- taken at 9
    have c9 : lo ≤ (n - 1) := (nI_leI (a := lo) (b := (n - 1)) (by omega) (by omega)).mp c9
    refine r_aload_0 d_X10_first_18 ?_
    refine r_get d_X10_first_19 s10_lows rfl rfl ?_
    refine r_iload_1 d_X10_first_22 ?_
    refine r_iald d_X10_first_23 rfl (pm_ixN hc (by decide)) ?_
    rw [s3]
    refine r_ireturn d_X10_first_24 ⟨_, rfl, rfl⟩ ?_
    exact ⟨congrArg (fun z => some (Value.int (nI z))) (by unfold sp_first; split <;> omega), rfl⟩
  · -- not taken at 9
    have c9 : ¬ lo ≤ (n - 1) := fun zz9 => c9 ((nI_leI (a := lo) (b := (n - 1)) (by omega) (by omega)).mpr zz9)
    refine r_iload_2 d_X10_first_12 ?_
    refine r_push (v := nI 1) d_X10_first_13 ?_
    refine r_isub d_X10_first_14 ?_
    rw [pk_sub (a := n) (b := 1) (by omega)]
    refine r_goto d_X10_first_15 ?_
    refine r_ireturn d_X10_first_24 ⟨_, rfl, rfl⟩ ?_
    exact ⟨congrArg (fun z => some (Value.int (nI z))) (by unfold sp_first; split <;> omega), rfl⟩
set_option maxRecDepth 10000 in
set_option maxHeartbeats 4000000 in
theorem c_X10_places {h : pm_H} {mi : Nat → Int32} {ml : Nat → Int64} {A : Nat → Nat → Int32} {B : Nat → Nat → Int64} {c k f lo hi : Nat} (hc : c < 10) (hs : m_sk A c k f lo hi) {n : Nat} (hn : 2 ≤ n ∧ n ≤ 60) : pm_Cv e_X10_places [.ref 44, .int (nI c), .int (nI n)] (pmM h mi ml A B) (.int (nI (sp_places lo hi n))) (pmM h mi ml A B) := by
  have hs0 := hs
  obtain ⟨g3, g4, g5, g6, g7, g8, s1, s2, s3, s4⟩ := hs
  have hf := sp_fl (n := n) g7
  have hl := sp_last_in (hi := hi) hn.1 (by omega)
  refine pm_enter rfl (Nat.le_of_ble_eq_true rfl) ?_
  show pm_V e_X10_places 0 [some (.ref 44), some (.int (nI c)), some (.int (nI n)), none] [] (pmM h mi ml A B) (0, 0) _
  refine r_aload_0 d_X10_places_0 ?_
  refine r_get d_X10_places_1 s10_highs rfl rfl ?_
  refine r_iload_1 d_X10_places_4 ?_
  refine r_iald d_X10_places_5 rfl (pm_ixN hc (by decide)) ?_
  rw [s4]
  refine r_iload_2 d_X10_places_6 ?_
  refine r_push (v := nI 1) d_X10_places_7 ?_
  refine r_isub d_X10_places_8 ?_
  rw [pk_sub (a := n) (b := 1) (by omega)]
  refine r_icmp_le d_X10_places_9 (fun c9 => ?_) (fun c9 => ?_)
  · -- taken at 9
    have c9 : hi ≤ (n - 1) := (nI_leI (a := hi) (b := (n - 1)) (by omega) (by omega)).mp c9
    refine r_aload_0 d_X10_places_18 ?_
    refine r_get d_X10_places_19 s10_highs rfl rfl ?_
    refine r_iload_1 d_X10_places_22 ?_
    refine r_iald d_X10_places_23 rfl (pm_ixN hc (by decide)) ?_
    rw [s4]
    have el : hi = sp_last hi n := by unfold sp_last; split <;> omega
    rw [show nI hi = nI (sp_last hi n) from congrArg nI el]
    refine r_istore_3 d_X10_places_24 (Nat.le_of_ble_eq_true rfl) (fun w hw => by cases hw <;> rfl) ?_
    refine r_iload_3 d_X10_places_25 ?_
    refine r_aload_0 d_X10_places_26 ?_
    refine r_iload_1 d_X10_places_27 ?_
    refine r_iload_2 d_X10_places_28 ?_
    refine r_V2 d_X10_places_29 (c_X10_first hc hs0 hn) rfl rfl rfl ⟨rfl, rfl⟩ (Nat.le_of_ble_eq_true rfl) ?_
    refine r_isub d_X10_places_32 ?_
    rw [pk_sub (a := (sp_last hi n)) (b := (sp_first lo n)) (by omega)]
    refine r_push (v := nI 1) d_X10_places_33 ?_
    refine r_iadd d_X10_places_34 ?_
    rw [nI_add]
    refine r_ireturn d_X10_places_35 ⟨_, rfl, rfl⟩ ?_
    exact ⟨rfl, rfl⟩
  · -- not taken at 9
    have c9 : ¬ hi ≤ (n - 1) := fun zz9 => c9 ((nI_leI (a := hi) (b := (n - 1)) (by omega) (by omega)).mpr zz9)
    refine r_iload_2 d_X10_places_12 ?_
    refine r_push (v := nI 1) d_X10_places_13 ?_
    refine r_isub d_X10_places_14 ?_
    rw [pk_sub (a := n) (b := 1) (by omega)]
    refine r_goto d_X10_places_15 ?_
    have el : (n - 1) = sp_last hi n := by unfold sp_last; split <;> omega
    rw [show nI (n - 1) = nI (sp_last hi n) from congrArg nI el]
    refine r_istore_3 d_X10_places_24 (Nat.le_of_ble_eq_true rfl) (fun w hw => by cases hw <;> rfl) ?_
    refine r_iload_3 d_X10_places_25 ?_
    refine r_aload_0 d_X10_places_26 ?_
    refine r_iload_1 d_X10_places_27 ?_
    refine r_iload_2 d_X10_places_28 ?_
    refine r_V2 d_X10_places_29 (c_X10_first hc hs0 hn) rfl rfl rfl ⟨rfl, rfl⟩ (Nat.le_of_ble_eq_true rfl) ?_
    refine r_isub d_X10_places_32 ?_
    rw [pk_sub (a := (sp_last hi n)) (b := (sp_first lo n)) (by omega)]
    refine r_push (v := nI 1) d_X10_places_33 ?_
    refine r_iadd d_X10_places_34 ?_
    rw [nI_add]
    refine r_ireturn d_X10_places_35 ⟨_, rfl, rfl⟩ ?_
    exact ⟨rfl, rfl⟩
def sp_pk (kd : Nat) : Bool := kd == 1 || kd == 3
set_option maxRecDepth 10000 in
set_option maxHeartbeats 4000000 in
theorem c_X10_parts {h : pm_H} {mi : Nat → Int32} {ml : Nat → Int64} {A : Nat → Nat → Int32} {B : Nat → Nat → Int64} {c kd : Nat} (hc : c < 10) (hk : A 46 c = nI kd) (hd : kd ≤ 3) : pm_Cv e_X10_parts [.ref 44, .int (nI c)] (pmM h mi ml A B) (.int (nI (pm_bl (sp_pk kd)))) (pmM h mi ml A B) := by
  refine pm_enter rfl (Nat.le_of_ble_eq_true rfl) ?_
  show pm_V e_X10_parts 0 [some (.ref 44), some (.int (nI c))] [] (pmM h mi ml A B) (0, 0) _
  refine r_aload_0 d_X10_parts_0 ?_
  refine r_get d_X10_parts_1 s10_kinds rfl rfl ?_
  refine r_iload_1 d_X10_parts_4 ?_
  refine r_iald d_X10_parts_5 rfl (pm_ixN hc (by decide)) ?_
  rw [hk]
  refine r_push (v := nI 1) d_X10_parts_6 ?_
  refine r_icmp_eq d_X10_parts_7 (fun c7 => ?_) (fun c7 => ?_)
  · -- taken at 7
    have c7 : kd = 1 := (nI_eq (a := kd) (b := 1) (by omega) (by omega)).mp c7
    refine r_push (v := nI 1) d_X10_parts_20 ?_
    refine r_goto d_X10_parts_21 ?_
    refine r_ireturn d_X10_parts_25 ⟨_, rfl, rfl⟩ ?_
    exact ⟨congrArg (fun z => some (Value.int (nI z))) (by unfold sp_pk pm_bl; simp [*]), rfl⟩
  · -- not taken at 7
    have c7 : ¬ kd = 1 := fun zz9 => c7 ((nI_eq (a := kd) (b := 1) (by omega) (by omega)).mpr zz9)
    refine r_aload_0 d_X10_parts_10 ?_
    refine r_get d_X10_parts_11 s10_kinds rfl rfl ?_
    refine r_iload_1 d_X10_parts_14 ?_
    refine r_iald d_X10_parts_15 rfl (pm_ixN hc (by decide)) ?_
    rw [hk]
    refine r_push (v := nI 3) d_X10_parts_16 ?_
    refine r_icmp_ne d_X10_parts_17 (fun c17 => ?_) (fun c17 => ?_)
    · -- taken at 17
      have c17 : ¬ kd = 3 := fun zz9 => c17 ((nI_eq (a := kd) (b := 3) (by omega) (by omega)).mpr zz9)
      refine r_push (v := nI 0) d_X10_parts_24 ?_
      refine r_ireturn d_X10_parts_25 ⟨_, rfl, rfl⟩ ?_
      exact ⟨congrArg (fun z => some (Value.int (nI z))) (by unfold sp_pk pm_bl; simp [*]), rfl⟩
    · -- not taken at 17
      have c17 : kd = 3 := (nI_eq (a := kd) (b := 3) (by omega) (by omega)).mp c17
      refine r_push (v := nI 1) d_X10_parts_20 ?_
      refine r_goto d_X10_parts_21 ?_
      refine r_ireturn d_X10_parts_25 ⟨_, rfl, rfl⟩ ?_
      exact ⟨congrArg (fun z => some (Value.int (nI z))) (by unfold sp_pk pm_bl; simp [*]), rfl⟩
set_option maxRecDepth 10000 in
set_option maxHeartbeats 4000000 in
theorem c_X10_under {h : pm_H} {mi : Nat → Int32} {ml : Nat → Int64} {A : Nat → Nat → Int32} {B : Nat → Nat → Int64} {m : Nat} (hm : 1 ≤ m ∧ m ≤ 60) : pm_Cv e_X10_under [.ref 44, .int (nI m)] (pmM h mi ml A B) (.int (nI (sp_un (sp_seed (ml 5)) m))) (pmM h mi (vp_updL ml 5 (sp_seed (ml 5))) A B) := by
  have hb := pm_ush33_lt (sp_seed (ml 5))
  have hq := Nat.mod_lt ((sp_seed (ml 5)).toUInt64.toNat / 2 ^ 33) (show 0 < m by omega)
  refine pm_enter rfl (Nat.le_of_ble_eq_true rfl) ?_
  show pm_V e_X10_under 0 [some (.ref 44), some (.int (nI m))] [] (pmM h mi ml A B) (0, 0) _
  refine r_aload_0 d_X10_under_0 ?_
  refine r_aload_0 d_X10_under_1 ?_
  refine r_get d_X10_under_2 s10_seed rfl rfl ?_
  refine r_pushl d_X10_under_5 ?_
  refine r_lmul d_X10_under_8 ?_
  refine r_pushl d_X10_under_9 ?_
  refine r_ladd d_X10_under_12 ?_
  rw [show (ml 5 * 6364136223846793005 + 1442695040888963407 : Int64) = sp_seed (ml 5) from rfl]
  refine r_put d_X10_under_13 s10_seed rfl (Nat.le_of_ble_eq_true rfl) ⟨rfl, rfl⟩ ?_
  rw [pmM_seed]
  refine r_aload_0 d_X10_under_16 ?_
  refine r_get d_X10_under_17 s10_seed rfl rfl ?_
  refine r_push (v := nI 33) d_X10_under_20 ?_
  refine r_lushr d_X10_under_22 ?_
  rw [show vp_updL ml 5 (sp_seed (ml 5)) 5 = sp_seed (ml 5) from rfl, pm_ush33]
  refine r_iload_1 d_X10_under_23 ?_
  refine r_i2l d_X10_under_24 ?_
  rw [nI_l (n := m) (by omega)]
  refine r_lrem d_X10_under_25 (pm_lne0 (n := m) (by omega) (by omega)) ?_
  rw [pk_lRem (a := ((sp_seed (ml 5)).toUInt64.toNat / 2 ^ 33)) (b := m) (by omega) (by omega) (by omega)]
  refine r_l2i d_X10_under_26 ?_
  rw [lN_i]
  refine r_ireturn d_X10_under_27 ⟨_, rfl, rfl⟩ ?_
  exact ⟨rfl, rfl⟩
