theorem sp_aft_x : ∀ act, act < 6 → ∀ x, x < 64 → nI x ^^^ (nI 1 <<< (nI act &&& 31)) = nI (sp_aft x act) := by decide +kernel
def m_ns (x i : Nat) : Int32 := (nI x >>> (nI (if i < 3 then i + 1 else i - 1) &&& 31) &&& nI 1) <<< (nI i &&& 31)
theorem m_ns_all : ∀ x, x < 64 → nI 0 ||| m_ns x 0 ||| m_ns x 1 ||| m_ns x 2 ||| m_ns x 3 ||| m_ns x 4 ||| m_ns x 5 = nI (sp_aft x 8) := by decide +kernel
set_option maxRecDepth 10000 in
set_option maxHeartbeats 4000000 in
theorem c_X10_after {h : pm_H} {x act : Nat} (hx : x < 64) (ha : act < 9) : pm_Cv e_X10_after [.int (nI x), .int (nI act)] h (.int (nI (sp_aft x act))) h := by
  refine pm_enter rfl (Nat.le_of_ble_eq_true rfl) ?_
  show pm_V e_X10_after 0 [some (.int (nI x)), some (.int (nI act)), none, none] [] h (0, 0) _
  refine r_iload_1 d_X10_after_0 ?_
  refine r_push (v := nI 6) d_X10_after_1 ?_
  refine r_icmp_ge d_X10_after_3 (fun c3 => ?_) (fun c3 => ?_)
  · -- taken at 3
    have c3 : 6 ≤ act := (nI_leI (a := 6) (b := act) (by omega) (by omega)).mp c3
    refine r_iload_1 d_X10_after_12 ?_
    refine r_push (v := nI 8) d_X10_after_13 ?_
    refine r_icmp_ge d_X10_after_15 (fun c15 => ?_) (fun c15 => ?_)
    · -- taken at 15
      have c15 : 8 ≤ act := (nI_leI (a := 8) (b := act) (by omega) (by omega)).mp c15
      obtain rfl : act = 8 := by omega
      refine r_push (v := nI 0) d_X10_after_36 ?_
      refine r_istore_2 d_X10_after_37 (Nat.le_of_ble_eq_true rfl) (fun w hw => by cases hw <;> rfl) ?_
      refine r_push (v := nI 0) d_X10_after_38 ?_
      refine r_istore_3 d_X10_after_39 (Nat.le_of_ble_eq_true rfl) (fun w hw => by cases hw <;> rfl) ?_
      refine r_iload_3 d_X10_after_40 ?_
      refine r_push (v := nI 6) d_X10_after_41 ?_
      refine r_icmp_ge d_X10_after_43 (fun c43 => absurd c43 (by decide)) (fun c43 => ?_)
      clear c43
      refine r_iload_2 d_X10_after_46 ?_
      refine r_iload_0 d_X10_after_47 ?_
      refine r_iload_3 d_X10_after_48 ?_
      refine r_S1 d_X10_after_49 (c_X10_nestedAt (by decide)) ⟨rfl, rfl⟩ (Nat.le_of_ble_eq_true rfl) ?_
      refine r_ishr d_X10_after_52 ?_
      refine r_push (v := nI 1) d_X10_after_53 ?_
      refine r_iand d_X10_after_54 ?_
      refine r_iload_3 d_X10_after_55 ?_
      refine r_ishl d_X10_after_56 ?_
      refine r_ior d_X10_after_57 ?_
      refine r_istore_2 d_X10_after_58 (Nat.le_of_ble_eq_true rfl) (fun w hw => by cases hw <;> rfl) ?_
      refine r_iinc_3 d_X10_after_59 (Nat.le_of_ble_eq_true rfl) (fun w hw => by cases hw <;> rfl) ?_
      rw [show nI 0 + 1 = nI 1 from rfl]
      refine r_goto d_X10_after_62 ?_
      refine r_iload_3 d_X10_after_40 ?_
      refine r_push (v := nI 6) d_X10_after_41 ?_
      refine r_icmp_ge d_X10_after_43 (fun c43 => absurd c43 (by decide)) (fun c43 => ?_)
      clear c43
      refine r_iload_2 d_X10_after_46 ?_
      refine r_iload_0 d_X10_after_47 ?_
      refine r_iload_3 d_X10_after_48 ?_
      refine r_S1 d_X10_after_49 (c_X10_nestedAt (by decide)) ⟨rfl, rfl⟩ (Nat.le_of_ble_eq_true rfl) ?_
      refine r_ishr d_X10_after_52 ?_
      refine r_push (v := nI 1) d_X10_after_53 ?_
      refine r_iand d_X10_after_54 ?_
      refine r_iload_3 d_X10_after_55 ?_
      refine r_ishl d_X10_after_56 ?_
      refine r_ior d_X10_after_57 ?_
      refine r_istore_2 d_X10_after_58 (Nat.le_of_ble_eq_true rfl) (fun w hw => by cases hw <;> rfl) ?_
      refine r_iinc_3 d_X10_after_59 (Nat.le_of_ble_eq_true rfl) (fun w hw => by cases hw <;> rfl) ?_
      rw [show nI 1 + 1 = nI 2 from rfl]
      refine r_goto d_X10_after_62 ?_
      refine r_iload_3 d_X10_after_40 ?_
      refine r_push (v := nI 6) d_X10_after_41 ?_
      refine r_icmp_ge d_X10_after_43 (fun c43 => absurd c43 (by decide)) (fun c43 => ?_)
      clear c43
      refine r_iload_2 d_X10_after_46 ?_
      refine r_iload_0 d_X10_after_47 ?_
      refine r_iload_3 d_X10_after_48 ?_
      refine r_S1 d_X10_after_49 (c_X10_nestedAt (by decide)) ⟨rfl, rfl⟩ (Nat.le_of_ble_eq_true rfl) ?_
      refine r_ishr d_X10_after_52 ?_
      refine r_push (v := nI 1) d_X10_after_53 ?_
      refine r_iand d_X10_after_54 ?_
      refine r_iload_3 d_X10_after_55 ?_
      refine r_ishl d_X10_after_56 ?_
      refine r_ior d_X10_after_57 ?_
      refine r_istore_2 d_X10_after_58 (Nat.le_of_ble_eq_true rfl) (fun w hw => by cases hw <;> rfl) ?_
      refine r_iinc_3 d_X10_after_59 (Nat.le_of_ble_eq_true rfl) (fun w hw => by cases hw <;> rfl) ?_
      rw [show nI 2 + 1 = nI 3 from rfl]
      refine r_goto d_X10_after_62 ?_
      refine r_iload_3 d_X10_after_40 ?_
      refine r_push (v := nI 6) d_X10_after_41 ?_
      refine r_icmp_ge d_X10_after_43 (fun c43 => absurd c43 (by decide)) (fun c43 => ?_)
      clear c43
      refine r_iload_2 d_X10_after_46 ?_
      refine r_iload_0 d_X10_after_47 ?_
      refine r_iload_3 d_X10_after_48 ?_
      refine r_S1 d_X10_after_49 (c_X10_nestedAt (by decide)) ⟨rfl, rfl⟩ (Nat.le_of_ble_eq_true rfl) ?_
      refine r_ishr d_X10_after_52 ?_
      refine r_push (v := nI 1) d_X10_after_53 ?_
      refine r_iand d_X10_after_54 ?_
      refine r_iload_3 d_X10_after_55 ?_
      refine r_ishl d_X10_after_56 ?_
      refine r_ior d_X10_after_57 ?_
      refine r_istore_2 d_X10_after_58 (Nat.le_of_ble_eq_true rfl) (fun w hw => by cases hw <;> rfl) ?_
      refine r_iinc_3 d_X10_after_59 (Nat.le_of_ble_eq_true rfl) (fun w hw => by cases hw <;> rfl) ?_
      rw [show nI 3 + 1 = nI 4 from rfl]
      refine r_goto d_X10_after_62 ?_
      refine r_iload_3 d_X10_after_40 ?_
      refine r_push (v := nI 6) d_X10_after_41 ?_
      refine r_icmp_ge d_X10_after_43 (fun c43 => absurd c43 (by decide)) (fun c43 => ?_)
      clear c43
      refine r_iload_2 d_X10_after_46 ?_
      refine r_iload_0 d_X10_after_47 ?_
      refine r_iload_3 d_X10_after_48 ?_
      refine r_S1 d_X10_after_49 (c_X10_nestedAt (by decide)) ⟨rfl, rfl⟩ (Nat.le_of_ble_eq_true rfl) ?_
      refine r_ishr d_X10_after_52 ?_
      refine r_push (v := nI 1) d_X10_after_53 ?_
      refine r_iand d_X10_after_54 ?_
      refine r_iload_3 d_X10_after_55 ?_
      refine r_ishl d_X10_after_56 ?_
      refine r_ior d_X10_after_57 ?_
      refine r_istore_2 d_X10_after_58 (Nat.le_of_ble_eq_true rfl) (fun w hw => by cases hw <;> rfl) ?_
      refine r_iinc_3 d_X10_after_59 (Nat.le_of_ble_eq_true rfl) (fun w hw => by cases hw <;> rfl) ?_
      rw [show nI 4 + 1 = nI 5 from rfl]
      refine r_goto d_X10_after_62 ?_
      refine r_iload_3 d_X10_after_40 ?_
      refine r_push (v := nI 6) d_X10_after_41 ?_
      refine r_icmp_ge d_X10_after_43 (fun c43 => absurd c43 (by decide)) (fun c43 => ?_)
      clear c43
      refine r_iload_2 d_X10_after_46 ?_
      refine r_iload_0 d_X10_after_47 ?_
      refine r_iload_3 d_X10_after_48 ?_
      refine r_S1 d_X10_after_49 (c_X10_nestedAt (by decide)) ⟨rfl, rfl⟩ (Nat.le_of_ble_eq_true rfl) ?_
      refine r_ishr d_X10_after_52 ?_
      refine r_push (v := nI 1) d_X10_after_53 ?_
      refine r_iand d_X10_after_54 ?_
      refine r_iload_3 d_X10_after_55 ?_
      refine r_ishl d_X10_after_56 ?_
      refine r_ior d_X10_after_57 ?_
      refine r_istore_2 d_X10_after_58 (Nat.le_of_ble_eq_true rfl) (fun w hw => by cases hw <;> rfl) ?_
      refine r_iinc_3 d_X10_after_59 (Nat.le_of_ble_eq_true rfl) (fun w hw => by cases hw <;> rfl) ?_
      rw [show nI 5 + 1 = nI 6 from rfl]
      refine r_goto d_X10_after_62 ?_
      refine r_iload_3 d_X10_after_40 ?_
      refine r_push (v := nI 6) d_X10_after_41 ?_
      refine r_icmp_ge d_X10_after_43 (fun c43 => ?_) (fun c43 => absurd (by decide) c43)
      clear c43
      refine r_iload_2 d_X10_after_65 ?_
      refine r_ireturn d_X10_after_66 ⟨_, rfl, rfl⟩ ?_
      exact ⟨congrArg (fun z => some (Value.int z)) (m_ns_all x hx), rfl⟩
    · -- not taken at 15
      have c15 : ¬ 8 ≤ act := fun zz9 => c15 ((nI_leI (a := 8) (b := act) (by omega) (by omega)).mpr zz9)
      refine r_iload_1 d_X10_after_18 ?_
      refine r_push (v := nI 6) d_X10_after_19 ?_
      refine r_icmp_ne d_X10_after_21 (fun c21 => ?_) (fun c21 => ?_)
      · -- taken at 21
        have c21 : ¬ act = 6 := fun zz9 => c21 ((nI_eq (a := act) (b := 6) (by omega) (by omega)).mpr zz9)
        refine r_push (v := nI 63) d_X10_after_31 ?_
        refine r_iload_0 d_X10_after_33 ?_
        refine r_isub d_X10_after_34 ?_
        rw [pk_sub (a := 63) (b := x) (by omega)]
        refine r_ireturn d_X10_after_35 ⟨_, rfl, rfl⟩ ?_
        exact ⟨congrArg (fun z => some (Value.int (nI z))) (by unfold sp_aft; repeat (first | rw [if_pos (by omega)] | rw [if_neg (by omega)])), rfl⟩
      · -- not taken at 21
        have c21 : act = 6 := (nI_eq (a := act) (b := 6) (by omega) (by omega)).mp c21
        refine r_iload_0 d_X10_after_24 ?_
        refine r_S1 d_X10_after_25 (c_X10_turned hx) ⟨rfl, rfl⟩ (Nat.le_of_ble_eq_true rfl) ?_
        refine r_goto d_X10_after_28 ?_
        refine r_ireturn d_X10_after_35 ⟨_, rfl, rfl⟩ ?_
        exact ⟨congrArg (fun z => some (Value.int (nI z))) (by unfold sp_aft; repeat (first | rw [if_pos (by omega)] | rw [if_neg (by omega)])), rfl⟩
  · -- not taken at 3
    have c3 : ¬ 6 ≤ act := fun zz9 => c3 ((nI_leI (a := 6) (b := act) (by omega) (by omega)).mpr zz9)
    refine r_iload_0 d_X10_after_6 ?_
    refine r_push (v := nI 1) d_X10_after_7 ?_
    refine r_iload_1 d_X10_after_8 ?_
    refine r_ishl d_X10_after_9 ?_
    refine r_ixor d_X10_after_10 ?_
    refine r_ireturn d_X10_after_11 ⟨_, rfl, rfl⟩ ?_
    exact ⟨congrArg (fun z => some (Value.int z)) (sp_aft_x act (by omega) x hx), rfl⟩
set_option maxRecDepth 10000 in
set_option maxHeartbeats 4000000 in
theorem c_X10_step_no {h : pm_H} {mi : Nat → Int32} {ml : Nat → Int64} {A : Nat → Nat → Int32} {B : Nat → Nat → Int64} {i : Int32} (hx : sp_in i 0 (mi 2 - 1) = false) : pm_Cv e_X10_step [.ref 44, .int i] (pmM h mi ml A B) (.int (-9)) (pmM h mi ml A B) := by
  refine pm_enter rfl (Nat.le_of_ble_eq_true rfl) ?_
  show pm_V e_X10_step 0 [some (.ref 44), some (.int i)] [] (pmM h mi ml A B) (0, 0) _
  refine r_iload_1 d_X10_step_0 ?_
  refine r_push d_X10_step_1 ?_
  refine r_aload_0 d_X10_step_2 ?_
  refine r_get d_X10_step_3 s10_steps rfl rfl ?_
  refine r_push d_X10_step_6 ?_
  refine r_isub d_X10_step_7 ?_
  refine r_S3 d_X10_step_8 c_X10_in ⟨rfl, rfl⟩ (Nat.le_of_ble_eq_true rfl) ?_
  rw [hx]
  show pm_V _ _ _ (.int (nI 0) :: _) _ _ _
  refine r_if_eq d_X10_step_11 (fun c11 => ?_) (fun c11 => absurd (by decide) c11)
  clear c11
  refine r_push d_X10_step_23 ?_
  refine r_ireturn d_X10_step_25 ⟨_, rfl, rfl⟩ ?_
  exact ⟨rfl, rfl⟩
set_option maxRecDepth 10000 in
set_option maxHeartbeats 4000000 in
theorem c_X10_step {h : pm_H} {mi : Nat → Int32} {ml : Nat → Int64} {A : Nat → Nat → Int32} {B : Nat → Nat → Int64} {j st : Nat} (hst : mi 2 = nI st) (hs : st ≤ 64) (hj : j < st) : pm_Cv e_X10_step [.ref 44, .int (nI j)] (pmM h mi ml A B) (.int (A 61 j)) (pmM h mi ml A B) := by
  refine pm_enter rfl (Nat.le_of_ble_eq_true rfl) ?_
  show pm_V e_X10_step 0 [some (.ref 44), some (.int (nI j))] [] (pmM h mi ml A B) (0, 0) _
  refine r_iload_1 d_X10_step_0 ?_
  refine r_push (v := nI 0) d_X10_step_1 ?_
  refine r_aload_0 d_X10_step_2 ?_
  refine r_get d_X10_step_3 s10_steps rfl rfl ?_
  rw [hst]
  refine r_push (v := nI 1) d_X10_step_6 ?_
  refine r_isub d_X10_step_7 ?_
  rw [pk_sub (a := st) (b := 1) (by omega)]
  refine r_S3 d_X10_step_8 (c_X10_inN (by omega) (by omega) (by omega)) ⟨rfl, rfl⟩ (Nat.le_of_ble_eq_true rfl) ?_
  refine r_if_eq d_X10_step_11 (fun c11 => absurd c11 (by decide)) (fun c11 => ?_)
  clear c11
  refine r_aload_0 d_X10_step_14 ?_
  refine r_get d_X10_step_15 s10_stepRow rfl rfl ?_
  refine r_iload_1 d_X10_step_18 ?_
  refine r_iald d_X10_step_19 rfl (pm_ixN (by omega) (by omega)) ?_
  refine r_goto d_X10_step_20 ?_
  refine r_ireturn d_X10_step_25 ⟨_, rfl, rfl⟩ ?_
  exact ⟨rfl, rfl⟩
set_option maxRecDepth 10000 in
set_option maxHeartbeats 4000000 in
theorem c_X10_leaf {h : pm_H} {mi : Nat → Int32} {ml : Nat → Int64} {A : Nat → Nat → Int32} {B : Nat → Nat → Int64} {r i : Nat} (hr : r < 4) (hi : i < 64) : pm_Cv e_X10_leaf [.ref 44, .int (nI r), .int (nI i)] (pmM h mi ml A B) (.int (A 63 (64 * r + i))) (pmM h mi ml A B) := by
  refine pm_enter rfl (Nat.le_of_ble_eq_true rfl) ?_
  show pm_V e_X10_leaf 0 [some (.ref 44), some (.int (nI r)), some (.int (nI i))] [] (pmM h mi ml A B) (0, 0) _
  refine r_aload_0 d_X10_leaf_0 ?_
  refine r_get d_X10_leaf_1 s10_rows rfl rfl ?_
  refine r_push (v := nI 64) d_X10_leaf_4 ?_
  refine r_iload_1 d_X10_leaf_6 ?_
  refine r_imul d_X10_leaf_7 ?_
  rw [pk_mul]
  refine r_iload_2 d_X10_leaf_8 ?_
  refine r_iadd d_X10_leaf_9 ?_
  rw [nI_add]
  refine r_iald d_X10_leaf_10 rfl (pm_ixN (by omega) (by omega)) ?_
  refine r_ireturn d_X10_leaf_11 ⟨_, rfl, rfl⟩ ?_
  exact ⟨rfl, rfl⟩
theorem m_neg9 : (-9 : Int32) < 0 := by decide
theorem m_nn {n : Nat} (h : n < 2 ^ 31) : ¬ (nI n < 0) := fun z => absurd ((nI_ltI (a := n) (b := 0) h (by decide)).mp z) (by omega)
theorem m_nge {n : Nat} (h : n < 2 ^ 31) : (0 : Int32) ≤ nI n := (nI_leI (a := 0) (b := n) (by decide) h).mpr (Nat.zero_le _)
set_option maxRecDepth 10000 in
set_option maxHeartbeats 4000000 in
theorem c_X10_looked_bad {h : pm_H} {mi : Nat → Int32} {ml : Nat → Int64} {A : Nat → Nat → Int32} {B : Nat → Nat → Int64} {r : Int32} (hr : sp_in r 0 3 = false) : pm_Cv e_X10_looked [.ref 44, .int r] (pmM h mi ml A B) (.int (-1)) (pmM h mi ml A B) := by
  refine pm_enter rfl (Nat.le_of_ble_eq_true rfl) ?_
  show pm_V e_X10_looked 0 [some (.ref 44), some (.int r)] [] (pmM h mi ml A B) (0, 0) _
  refine r_iload_1 d_X10_looked_0 ?_
  refine r_S1 d_X10_looked_1 c_X10_isRow ⟨rfl, rfl⟩ (Nat.le_of_ble_eq_true rfl) ?_
  rw [hr]
  show pm_V _ _ _ (.int (nI 0) :: _) _ _ _
  refine r_if_ne d_X10_looked_4 (fun c4 => absurd (by decide) c4) (fun c4 => ?_)
  clear c4
  refine r_push d_X10_looked_7 ?_
  refine r_goto d_X10_looked_8 ?_
  refine r_ireturn d_X10_looked_29 ⟨_, rfl, rfl⟩ ?_
  exact ⟨rfl, rfl⟩
set_option maxRecDepth 10000 in
set_option maxHeartbeats 4000000 in
theorem c_X10_looked_none {h : pm_H} {mi : Nat → Int32} {ml : Nat → Int64} {A : Nat → Nat → Int32} {B : Nat → Nat → Int64} {r : Nat} (hr : r < 4) (hz : A 62 r = -9) : pm_Cv e_X10_looked [.ref 44, .int (nI r)] (pmM h mi ml A B) (.int (-3)) (m_meet h mi ml A B 1) := by
  refine pm_enter rfl (Nat.le_of_ble_eq_true rfl) ?_
  show pm_V e_X10_looked 0 [some (.ref 44), some (.int (nI r))] [] (pmM h mi ml A B) (0, 0) _
  refine r_iload_1 d_X10_looked_0 ?_
  refine r_S1 d_X10_looked_1 (c_X10_isRowN (by omega)) ⟨rfl, rfl⟩ (Nat.le_of_ble_eq_true rfl) ?_
  refine r_if_ne d_X10_looked_4 (fun c4 => ?_) (fun c4 => absurd c4 (by decide))
  clear c4
  refine r_aload_0 d_X10_looked_11 ?_
  refine r_get d_X10_looked_12 s10_sizes rfl rfl ?_
  refine r_iload_1 d_X10_looked_15 ?_
  refine r_iald d_X10_looked_16 rfl (pm_ixN (by omega) (by omega)) ?_
  rw [hz]
  refine r_if_ge d_X10_looked_17 (fun c17 => ?_) (fun c17 => ?_)
  · -- taken at 17
    exact absurd c17 (by decide)
  · -- not taken at 17
    refine r_aload_0 d_X10_looked_20 ?_
    refine r_push (v := nI 1) d_X10_looked_21 ?_
    refine r_V1 d_X10_looked_22 (c_X10_meets (w := 1) (by decide)) rfl rfl rfl ⟨rfl, rfl⟩ (Nat.le_of_ble_eq_true rfl) ?_
    refine r_goto d_X10_looked_25 ?_
    refine r_ireturn d_X10_looked_29 ⟨_, rfl, rfl⟩ ?_
    exact ⟨rfl, rfl⟩
set_option maxRecDepth 10000 in
set_option maxHeartbeats 4000000 in
theorem c_X10_looked {h : pm_H} {mi : Nat → Int32} {ml : Nat → Int64} {A : Nat → Nat → Int32} {B : Nat → Nat → Int64} {r z : Nat} (hr : r < 4) (hz : A 62 r = nI z) (hz64 : z ≤ 64) : pm_Cv e_X10_looked [.ref 44, .int (nI r)] (pmM h mi ml A B) (.int 0) (pmM h mi ml A B) := by
  refine pm_enter rfl (Nat.le_of_ble_eq_true rfl) ?_
  show pm_V e_X10_looked 0 [some (.ref 44), some (.int (nI r))] [] (pmM h mi ml A B) (0, 0) _
  refine r_iload_1 d_X10_looked_0 ?_
  refine r_S1 d_X10_looked_1 (c_X10_isRowN (by omega)) ⟨rfl, rfl⟩ (Nat.le_of_ble_eq_true rfl) ?_
  refine r_if_ne d_X10_looked_4 (fun c4 => ?_) (fun c4 => absurd c4 (by decide))
  clear c4
  refine r_aload_0 d_X10_looked_11 ?_
  refine r_get d_X10_looked_12 s10_sizes rfl rfl ?_
  refine r_iload_1 d_X10_looked_15 ?_
  refine r_iald d_X10_looked_16 rfl (pm_ixN (by omega) (by omega)) ?_
  rw [hz]
  refine r_if_ge d_X10_looked_17 (fun c17 => ?_) (fun c17 => ?_)
  · -- taken at 17
    have c17 : 0 ≤ z := (nI_leI (a := 0) (b := z) (by omega) (by omega)).mp c17
    refine r_push (v := nI 0) d_X10_looked_28 ?_
    refine r_ireturn d_X10_looked_29 ⟨_, rfl, rfl⟩ ?_
    exact ⟨rfl, rfl⟩
  · -- not taken at 17
    have c17 : ¬ 0 ≤ z := fun zz9 => c17 ((nI_leI (a := 0) (b := z) (by omega) (by omega)).mpr zz9)
    exfalso; omega
def m_bk {α : Type} (a : Nat → α) (b : Nat) (s : Nat → α) (i : Nat) : Nat → α := fun q => if b ≤ q ∧ q < b + i then s (q - b) else a q
theorem m_bk_0 {α : Type} (a : Nat → α) (b : Nat) (s : Nat → α) : m_bk a b s 0 = a := by
  funext q; unfold m_bk; rw [if_neg (by omega)]
theorem m_bk_s (a : Nat → Int32) (b : Nat) (s : Nat → Int32) (i : Nat) : upd (m_bk a b s i) (b + i) (s i) = m_bk a b s (i + 1) := by
  funext q
  by_cases e : q = b + i
  · subst e
    unfold m_bk upd
    rw [if_pos rfl, if_pos (by omega), Nat.add_sub_cancel_left]
  · unfold m_bk upd
    rw [if_neg e]
    dsimp only
    by_cases e2 : b ≤ q ∧ q < b + i
    · rw [if_pos e2, if_pos (by omega)]
    · rw [if_neg e2, if_neg (by omega)]
theorem m_bk_cong {α : Type} {a : Nat → α} {p : Nat} {s s' : Nat → α} {i : Nat} (h : ∀ j, j < i → s j = s' j) : m_bk a p s i = m_bk a p s' i := by
  funext q
  unfold m_bk
  by_cases e : p ≤ q ∧ q < p + i
  · rw [if_pos e, if_pos e]; exact h _ (by omega)
  · rw [if_neg e, if_neg e]
set_option maxRecDepth 10000 in
set_option maxHeartbeats 4000000 in
theorem c_X10_row_bad1 {h : pm_H} {mi : Nat → Int32} {ml : Nat → Int64} {A : Nat → Nat → Int32} {B : Nat → Nat → Int64} {r n : Int32} (hr : sp_in r 0 3 = false) : pm_Cv e_X10_row [.ref 44, .int r, .int n] (pmM h mi ml A B) (.int (-1)) (pmM h mi ml A B) := by
  refine pm_enter rfl (Nat.le_of_ble_eq_true rfl) ?_
  show pm_V e_X10_row 0 [some (.ref 44), some (.int r), some (.int n), none] [] (pmM h mi ml A B) (0, 0) _
  refine r_iload_1 d_X10_row_0 ?_
  refine r_S1 d_X10_row_1 c_X10_isRow ⟨rfl, rfl⟩ (Nat.le_of_ble_eq_true rfl) ?_
  rw [hr]
  show pm_V _ _ _ (.int (nI 0) :: _) _ _ _
  refine r_if_eq d_X10_row_4 (fun c4 => ?_) (fun c4 => absurd (by decide) c4)
  clear c4
  refine r_push d_X10_row_13 ?_
  refine r_ireturn d_X10_row_14 ⟨_, rfl, rfl⟩ ?_
  exact ⟨rfl, rfl⟩
set_option maxRecDepth 10000 in
set_option maxHeartbeats 4000000 in
theorem c_X10_row_bad2 {h : pm_H} {mi : Nat → Int32} {ml : Nat → Int64} {A : Nat → Nat → Int32} {B : Nat → Nat → Int64} {r n : Int32} (hr : sp_in r 0 3 = true) (hn : 64 < n) : pm_Cv e_X10_row [.ref 44, .int r, .int n] (pmM h mi ml A B) (.int (-1)) (pmM h mi ml A B) := by
  refine pm_enter rfl (Nat.le_of_ble_eq_true rfl) ?_
  show pm_V e_X10_row 0 [some (.ref 44), some (.int r), some (.int n), none] [] (pmM h mi ml A B) (0, 0) _
  refine r_iload_1 d_X10_row_0 ?_
  refine r_S1 d_X10_row_1 c_X10_isRow ⟨rfl, rfl⟩ (Nat.le_of_ble_eq_true rfl) ?_
  rw [hr]
  show pm_V _ _ _ (.int (nI 1) :: _) _ _ _
  refine r_if_eq d_X10_row_4 (fun c4 => absurd c4 (by decide)) (fun c4 => ?_)
  clear c4
  refine r_iload_2 d_X10_row_7 ?_
  refine r_push d_X10_row_8 ?_
  refine r_icmp_le d_X10_row_10 (fun c10 => ?_) (fun c10 => ?_)
  · -- taken at 10
    exact absurd hn (Int32.not_lt.mpr c10)
  · -- not taken at 10
    refine r_push d_X10_row_13 ?_
    refine r_ireturn d_X10_row_14 ⟨_, rfl, rfl⟩ ?_
    exact ⟨rfl, rfl⟩
set_option maxRecDepth 10000 in
set_option maxHeartbeats 4000000 in
theorem c_X10_row_neg {h : pm_H} {mi : Nat → Int32} {ml : Nat → Int64} {A : Nat → Nat → Int32} {B : Nat → Nat → Int64} {r n : Int32} (hr : sp_in r 0 3 = true) (hn : n < 0) : pm_Cv e_X10_row [.ref 44, .int r, .int n] (pmM h mi ml A B) (.int (-3)) (m_meet h mi ml A B 5) := by
  refine pm_enter rfl (Nat.le_of_ble_eq_true rfl) ?_
  show pm_V e_X10_row 0 [some (.ref 44), some (.int r), some (.int n), none] [] (pmM h mi ml A B) (0, 0) _
  refine r_iload_1 d_X10_row_0 ?_
  refine r_S1 d_X10_row_1 c_X10_isRow ⟨rfl, rfl⟩ (Nat.le_of_ble_eq_true rfl) ?_
  rw [hr]
  show pm_V _ _ _ (.int (nI 1) :: _) _ _ _
  refine r_if_eq d_X10_row_4 (fun c4 => absurd c4 (by decide)) (fun c4 => ?_)
  clear c4
  refine r_iload_2 d_X10_row_7 ?_
  refine r_push d_X10_row_8 ?_
  refine r_icmp_le d_X10_row_10 (fun c10 => ?_) (fun c10 => ?_)
  · -- taken at 10
    refine r_iload_2 d_X10_row_15 ?_
    refine r_if_ge d_X10_row_16 (fun c16 => ?_) (fun c16 => ?_)
    · -- taken at 16
      exact absurd hn (Int32.not_lt.mpr c16)
    · -- not taken at 16
      refine r_aload_0 d_X10_row_19 ?_
      refine r_push d_X10_row_20 ?_
      refine r_V1 d_X10_row_21 (c_X10_meets (w := 5) (by decide)) rfl rfl rfl ⟨rfl, rfl⟩ (Nat.le_of_ble_eq_true rfl) ?_
      refine r_ireturn d_X10_row_24 ⟨_, rfl, rfl⟩ ?_
      exact ⟨rfl, rfl⟩
  · -- not taken at 10
    exact absurd (Int32.le_of_lt (Int32.lt_trans hn (by decide))) c10
set_option maxRecDepth 10000 in
set_option maxHeartbeats 4000000 in
theorem lp_X10_row {h : pm_H} {mi : Nat → Int32} {ml : Nat → Int64} {A : Nat → Nat → Int32} {B : Nat → Nat → Int64} {r n : Nat} (hr : r < 4) {F : Option Value → pm_H → Prop} {b : Nat × Nat}  (K : pm_V e_X10_row 58 [some (.ref 44), some (.int (nI r)), some (.int (nI n)), some (.int (nI 64))] [] (pmM h mi ml (va_up A 63 (m_bk (A 63) (64 * r) (fun _ => nI 0) 64)) B) b F) : ∀ (d i : Nat), i + d = 64 → pm_V e_X10_row 34 [some (.ref 44), some (.int (nI r)), some (.int (nI n)), some (.int (nI i))] [] (pmM h mi ml (va_up A 63 (m_bk (A 63) (64 * r) (fun _ => nI 0) i)) B) b F := by
  intro d
  induction d with
  | zero =>
    intro i hi
    obtain rfl : i = 64 := by omega
    refine r_iload_3 d_X10_row_34 ?_
    refine r_push (v := nI 64) d_X10_row_35 ?_
    refine r_icmp_ge d_X10_row_37 (fun c37 => ?_) (fun c37 => absurd (by decide) c37)
    clear c37
    exact K
  | succ d ih =>
    intro i hi
    refine r_iload_3 d_X10_row_34 ?_
    refine r_push (v := nI 64) d_X10_row_35 ?_
    refine r_icmp_ge d_X10_row_37 (fun c37 => ?_) (fun c37 => ?_)
    · -- taken at 37
      have c37 : 64 ≤ i := (nI_leI (a := 64) (b := i) (by omega) (by omega)).mp c37
      exfalso; omega
    · -- not taken at 37
      have c37 : ¬ 64 ≤ i := fun zz9 => c37 ((nI_leI (a := 64) (b := i) (by omega) (by omega)).mpr zz9)
      refine r_aload_0 d_X10_row_40 ?_
      refine r_get d_X10_row_41 s10_rows rfl rfl ?_
      refine r_push (v := nI 64) d_X10_row_44 ?_
      refine r_iload_1 d_X10_row_46 ?_
      refine r_imul d_X10_row_47 ?_
      rw [pk_mul]
      refine r_iload_3 d_X10_row_48 ?_
      refine r_iadd d_X10_row_49 ?_
      rw [nI_add]
      refine r_push (v := nI 0) d_X10_row_50 ?_
      refine r_iast d_X10_row_51 rfl (pm_ixN (by omega) (by omega)) ?_
      rw [pmM_rows, m_aua, show upd (va_up A 63 (m_bk (A 63) (64 * r) (fun _ => nI 0) i) 63) (64 * r + i) (nI 0) = m_bk (A 63) (64 * r) (fun _ => nI 0) (i + 1) from m_bk_s (A 63) (64 * r) (fun _ => nI 0) i]
      refine r_iinc_3 d_X10_row_52 (Nat.le_of_ble_eq_true rfl) (fun w hw => by cases hw <;> rfl) ?_
      rw [nI_1]
      refine r_goto d_X10_row_55 ?_
      exact ih (i + 1) (by omega)
set_option maxRecDepth 10000 in
set_option maxHeartbeats 4000000 in
theorem c_X10_row {h : pm_H} {mi : Nat → Int32} {ml : Nat → Int64} {A : Nat → Nat → Int32} {B : Nat → Nat → Int64} {r n : Nat} (hr : r < 4) (hn : n ≤ 64) : pm_Cv e_X10_row [.ref 44, .int (nI r), .int (nI n)] (pmM h mi ml A B) (.int (nI n)) (pmM h mi ml (va_up (va_up A 62 (upd (A 62) r (nI n))) 63 (m_bk (A 63) (64 * r) (fun _ => nI 0) 64)) B) := by
  refine pm_enter rfl (Nat.le_of_ble_eq_true rfl) ?_
  show pm_V e_X10_row 0 [some (.ref 44), some (.int (nI r)), some (.int (nI n)), none] [] (pmM h mi ml A B) (0, 0) _
  refine r_iload_1 d_X10_row_0 ?_
  refine r_S1 d_X10_row_1 (c_X10_isRowN (by omega)) ⟨rfl, rfl⟩ (Nat.le_of_ble_eq_true rfl) ?_
  refine r_if_eq d_X10_row_4 (fun c4 => absurd c4 (by decide)) (fun c4 => ?_)
  clear c4
  refine r_iload_2 d_X10_row_7 ?_
  refine r_push (v := nI 64) d_X10_row_8 ?_
  refine r_icmp_le d_X10_row_10 (fun c10 => ?_) (fun c10 => ?_)
  · -- taken at 10
    have c10 : n ≤ 64 := (nI_leI (a := n) (b := 64) (by omega) (by omega)).mp c10
    refine r_iload_2 d_X10_row_15 ?_
    refine r_if_ge d_X10_row_16 (fun c16 => ?_) (fun c16 => ?_)
    · -- taken at 16
      have c16 : 0 ≤ n := (nI_leI (a := 0) (b := n) (by omega) (by omega)).mp c16
      refine r_aload_0 d_X10_row_25 ?_
      refine r_get d_X10_row_26 s10_sizes rfl rfl ?_
      refine r_iload_1 d_X10_row_29 ?_
      refine r_iload_2 d_X10_row_30 ?_
      refine r_iast d_X10_row_31 rfl (pm_ixN (by omega) (by omega)) ?_
      rw [pmM_sizes]
      refine r_push (v := nI 0) d_X10_row_32 ?_
      refine r_istore_3 d_X10_row_33 (Nat.le_of_ble_eq_true rfl) (fun w hw => by cases hw <;> rfl) ?_
      have K := lp_X10_row (h := h) (mi := mi) (ml := ml) (A := va_up A 62 (upd (A 62) r (nI n))) (B := B) (r := r) (n := n) hr (b := (0, 0)) (F := fun v h1 => v = some (.int (nI n)) ∧ h1 = (pmM h mi ml (va_up (va_up A 62 (upd (A 62) r (nI n))) 63 (m_bk (A 63) (64 * r) (fun _ => nI 0) 64)) B)) ?_ 64 0 (by omega)
      · rw [m_bk_0, m_aus] at K
        exact K
      · refine r_iload_2 d_X10_row_58 ?_
        refine r_ireturn d_X10_row_59 ⟨_, rfl, rfl⟩ ?_
        exact ⟨rfl, rfl⟩
    · -- not taken at 16
      have c16 : ¬ 0 ≤ n := fun zz9 => c16 ((nI_leI (a := 0) (b := n) (by omega) (by omega)).mpr zz9)
      exfalso; omega
  · -- not taken at 10
    have c10 : ¬ n ≤ 64 := fun zz9 => c10 ((nI_leI (a := n) (b := 64) (by omega) (by omega)).mpr zz9)
    exfalso; omega
set_option maxRecDepth 10000 in
set_option maxHeartbeats 4000000 in
theorem c_X10_lay_bad {h : pm_H} {mi : Nat → Int32} {ml : Nat → Int64} {A : Nat → Nat → Int32} {B : Nat → Nat → Int64} {r : Int32} {i v : Int32} (hr : sp_in r 0 3 = false) : pm_Cv e_X10_lay [.ref 44, .int r, .int i, .int v] (pmM h mi ml A B) (.int (-1)) (pmM h mi ml A B) := by
  refine pm_enter rfl (Nat.le_of_ble_eq_true rfl) ?_
  show pm_V e_X10_lay 0 [some (.ref 44), some (.int r), some (.int i), some (.int v), none, none] [] (pmM h mi ml A B) (0, 0) _
  refine r_aload_0 d_X10_lay_0 ?_
  refine r_iload_1 d_X10_lay_1 ?_
  refine r_V1 d_X10_lay_2 (c_X10_looked_bad hr) rfl rfl rfl ⟨rfl, rfl⟩ (Nat.le_of_ble_eq_true rfl) ?_
  refine r_istore_4 d_X10_lay_5 (Nat.le_of_ble_eq_true rfl) (fun w hw => by cases hw <;> rfl) ?_
  refine r_iload_4 d_X10_lay_7 ?_
  refine r_if_ge d_X10_lay_9 (fun c9 => ?_) (fun c9 => ?_)
  · -- taken at 9
    exact absurd c9 (by decide)
  · -- not taken at 9
    refine r_iload_4 d_X10_lay_12 ?_
    refine r_ireturn d_X10_lay_14 ⟨_, rfl, rfl⟩ ?_
    exact ⟨rfl, rfl⟩
set_option maxRecDepth 10000 in
set_option maxHeartbeats 4000000 in
theorem c_X10_lay_none {h : pm_H} {mi : Nat → Int32} {ml : Nat → Int64} {A : Nat → Nat → Int32} {B : Nat → Nat → Int64} {r : Nat} {i v : Int32} (hr : r < 4) (hz : A 62 r = -9) : pm_Cv e_X10_lay [.ref 44, .int (nI r), .int i, .int v] (pmM h mi ml A B) (.int (-3)) (m_meet h mi ml A B 1) := by
  refine pm_enter rfl (Nat.le_of_ble_eq_true rfl) ?_
  show pm_V e_X10_lay 0 [some (.ref 44), some (.int (nI r)), some (.int i), some (.int v), none, none] [] (pmM h mi ml A B) (0, 0) _
  refine r_aload_0 d_X10_lay_0 ?_
  refine r_iload_1 d_X10_lay_1 ?_
  refine r_V1 d_X10_lay_2 (c_X10_looked_none hr hz) rfl rfl rfl ⟨rfl, rfl⟩ (Nat.le_of_ble_eq_true rfl) ?_
  refine r_istore_4 d_X10_lay_5 (Nat.le_of_ble_eq_true rfl) (fun w hw => by cases hw <;> rfl) ?_
  refine r_iload_4 d_X10_lay_7 ?_
  refine r_if_ge d_X10_lay_9 (fun c9 => ?_) (fun c9 => ?_)
  · -- taken at 9
    exact absurd c9 (by decide)
  · -- not taken at 9
    refine r_iload_4 d_X10_lay_12 ?_
    refine r_ireturn d_X10_lay_14 ⟨_, rfl, rfl⟩ ?_
    exact ⟨rfl, rfl⟩
set_option maxRecDepth 10000 in
set_option maxHeartbeats 4000000 in
theorem c_X10_lay_far {h : pm_H} {mi : Nat → Int32} {ml : Nat → Int64} {A : Nat → Nat → Int32} {B : Nat → Nat → Int64} {r z : Nat} {i v : Int32} (hr : r < 4) (hz : A 62 r = nI z) (hz64 : z ≤ 64) (hx : sp_in i 0 (nI z - 1) = false) : pm_Cv e_X10_lay [.ref 44, .int (nI r), .int i, .int v] (pmM h mi ml A B) (.int (-3)) (m_meet h mi ml A B 2) := by
  refine pm_enter rfl (Nat.le_of_ble_eq_true rfl) ?_
  show pm_V e_X10_lay 0 [some (.ref 44), some (.int (nI r)), some (.int i), some (.int v), none, none] [] (pmM h mi ml A B) (0, 0) _
  refine r_aload_0 d_X10_lay_0 ?_
  refine r_iload_1 d_X10_lay_1 ?_
  refine r_V1 d_X10_lay_2 (c_X10_looked hr hz hz64) rfl rfl rfl ⟨rfl, rfl⟩ (Nat.le_of_ble_eq_true rfl) ?_
  show pm_V _ _ _ (.int (nI 0) :: _) _ _ _
  refine r_istore_4 d_X10_lay_5 (Nat.le_of_ble_eq_true rfl) (fun w hw => by cases hw <;> rfl) ?_
  refine r_iload_4 d_X10_lay_7 ?_
  refine r_if_ge d_X10_lay_9 (fun c9 => ?_) (fun c9 => absurd (by decide) c9)
  clear c9
  refine r_iload_2 d_X10_lay_15 ?_
  refine r_push d_X10_lay_16 ?_
  refine r_aload_0 d_X10_lay_17 ?_
  refine r_get d_X10_lay_18 s10_sizes rfl rfl ?_
  refine r_iload_1 d_X10_lay_21 ?_
  refine r_iald d_X10_lay_22 rfl (pm_ixN (by omega) (by omega)) ?_
  rw [hz]
  refine r_push d_X10_lay_23 ?_
  refine r_isub d_X10_lay_24 ?_
  refine r_S3 d_X10_lay_25 c_X10_in ⟨rfl, rfl⟩ (Nat.le_of_ble_eq_true rfl) ?_
  rw [hx]
  show pm_V _ _ _ (.int (nI 0) :: _) _ _ _
  refine r_if_ne d_X10_lay_28 (fun c28 => absurd (by decide) c28) (fun c28 => ?_)
  clear c28
  refine r_aload_0 d_X10_lay_31 ?_
  refine r_push d_X10_lay_32 ?_
  refine r_V1 d_X10_lay_33 (c_X10_meets (w := 2) (by decide)) rfl rfl rfl ⟨rfl, rfl⟩ (Nat.le_of_ble_eq_true rfl) ?_
  refine r_ireturn d_X10_lay_36 ⟨_, rfl, rfl⟩ ?_
  exact ⟨rfl, rfl⟩
set_option maxRecDepth 10000 in
set_option maxHeartbeats 4000000 in
theorem c_X10_lay {h : pm_H} {mi : Nat → Int32} {ml : Nat → Int64} {A : Nat → Nat → Int32} {B : Nat → Nat → Int64} {r z i : Nat} {v : Int32} (hr : r < 4) (hz : A 62 r = nI z) (hz64 : z ≤ 64) (hx : i < z) : pm_Cv e_X10_lay [.ref 44, .int (nI r), .int (nI i), .int v] (pmM h mi ml A B) (.int (A 63 (64 * r + i) + 1000)) (pmM h mi ml (va_up A 63 (upd (A 63) (64 * r + i) v.toInt8.toInt32)) B) := by
  refine pm_enter rfl (Nat.le_of_ble_eq_true rfl) ?_
  show pm_V e_X10_lay 0 [some (.ref 44), some (.int (nI r)), some (.int (nI i)), some (.int v), none, none] [] (pmM h mi ml A B) (0, 0) _
  refine r_aload_0 d_X10_lay_0 ?_
  refine r_iload_1 d_X10_lay_1 ?_
  refine r_V1 d_X10_lay_2 (c_X10_looked hr hz hz64) rfl rfl rfl ⟨rfl, rfl⟩ (Nat.le_of_ble_eq_true rfl) ?_
  show pm_V _ _ _ (.int (nI 0) :: _) _ _ _
  refine r_istore_4 d_X10_lay_5 (Nat.le_of_ble_eq_true rfl) (fun w hw => by cases hw <;> rfl) ?_
  refine r_iload_4 d_X10_lay_7 ?_
  refine r_if_ge d_X10_lay_9 (fun c9 => ?_) (fun c9 => absurd (by decide) c9)
  clear c9
  refine r_iload_2 d_X10_lay_15 ?_
  refine r_push (v := nI 0) d_X10_lay_16 ?_
  refine r_aload_0 d_X10_lay_17 ?_
  refine r_get d_X10_lay_18 s10_sizes rfl rfl ?_
  refine r_iload_1 d_X10_lay_21 ?_
  refine r_iald d_X10_lay_22 rfl (pm_ixN (by omega) (by omega)) ?_
  rw [hz]
  refine r_push (v := nI 1) d_X10_lay_23 ?_
  refine r_isub d_X10_lay_24 ?_
  rw [pk_sub (a := z) (b := 1) (by omega)]
  refine r_S3 d_X10_lay_25 (c_X10_inN (by omega) (by omega) (by omega)) ⟨rfl, rfl⟩ (Nat.le_of_ble_eq_true rfl) ?_
  refine r_if_ne d_X10_lay_28 (fun c28 => ?_) (fun c28 => absurd c28 (by decide))
  clear c28
  refine r_aload_0 d_X10_lay_37 ?_
  refine r_get d_X10_lay_38 s10_rows rfl rfl ?_
  refine r_push (v := nI 64) d_X10_lay_41 ?_
  refine r_iload_1 d_X10_lay_43 ?_
  refine r_imul d_X10_lay_44 ?_
  rw [pk_mul]
  refine r_iload_2 d_X10_lay_45 ?_
  refine r_iadd d_X10_lay_46 ?_
  rw [nI_add]
  refine r_iald d_X10_lay_47 rfl (pm_ixN (by omega) (by omega)) ?_
  refine r_istore_5 d_X10_lay_48 (Nat.le_of_ble_eq_true rfl) (fun w hw => by cases hw <;> rfl) ?_
  refine r_aload_0 d_X10_lay_50 ?_
  refine r_get d_X10_lay_51 s10_rows rfl rfl ?_
  refine r_push (v := nI 64) d_X10_lay_54 ?_
  refine r_iload_1 d_X10_lay_56 ?_
  refine r_imul d_X10_lay_57 ?_
  rw [pk_mul]
  refine r_iload_2 d_X10_lay_58 ?_
  refine r_iadd d_X10_lay_59 ?_
  rw [nI_add]
  refine r_iload_3 d_X10_lay_60 ?_
  refine r_i2b d_X10_lay_61 ?_
  refine r_iast d_X10_lay_62 rfl (pm_ixN (by omega) (by omega)) ?_
  rw [pmM_rows]
  refine r_iload_5 d_X10_lay_63 ?_
  refine r_push (v := nI 1000) d_X10_lay_65 ?_
  refine r_iadd d_X10_lay_68 ?_
  refine r_ireturn d_X10_lay_69 ⟨_, rfl, rfl⟩ ?_
  exact ⟨rfl, rfl⟩
set_option maxRecDepth 10000 in
set_option maxHeartbeats 4000000 in
theorem c_X10_tear_bad {h : pm_H} {mi : Nat → Int32} {ml : Nat → Int64} {A : Nat → Nat → Int32} {B : Nat → Nat → Int64} {r : Int32}  (hr : sp_in r 0 3 = false) : pm_Cv e_X10_tear [.ref 44, .int r] (pmM h mi ml A B) (.int (-1)) (pmM h mi ml A B) := by
  refine pm_enter rfl (Nat.le_of_ble_eq_true rfl) ?_
  show pm_V e_X10_tear 0 [some (.ref 44), some (.int r), none] [] (pmM h mi ml A B) (0, 0) _
  refine r_aload_0 d_X10_tear_0 ?_
  refine r_iload_1 d_X10_tear_1 ?_
  refine r_V1 d_X10_tear_2 (c_X10_looked_bad hr) rfl rfl rfl ⟨rfl, rfl⟩ (Nat.le_of_ble_eq_true rfl) ?_
  refine r_istore_2 d_X10_tear_5 (Nat.le_of_ble_eq_true rfl) (fun w hw => by cases hw <;> rfl) ?_
  refine r_iload_2 d_X10_tear_6 ?_
  refine r_if_ge d_X10_tear_7 (fun c7 => ?_) (fun c7 => ?_)
  · -- taken at 7
    exact absurd c7 (by decide)
  · -- not taken at 7
    refine r_iload_2 d_X10_tear_10 ?_
    refine r_ireturn d_X10_tear_11 ⟨_, rfl, rfl⟩ ?_
    exact ⟨rfl, rfl⟩
set_option maxRecDepth 10000 in
set_option maxHeartbeats 4000000 in
theorem c_X10_tear_none {h : pm_H} {mi : Nat → Int32} {ml : Nat → Int64} {A : Nat → Nat → Int32} {B : Nat → Nat → Int64} {r : Nat}  (hr : r < 4) (hz : A 62 r = -9) : pm_Cv e_X10_tear [.ref 44, .int (nI r)] (pmM h mi ml A B) (.int (-3)) (m_meet h mi ml A B 1) := by
  refine pm_enter rfl (Nat.le_of_ble_eq_true rfl) ?_
  show pm_V e_X10_tear 0 [some (.ref 44), some (.int (nI r)), none] [] (pmM h mi ml A B) (0, 0) _
  refine r_aload_0 d_X10_tear_0 ?_
  refine r_iload_1 d_X10_tear_1 ?_
  refine r_V1 d_X10_tear_2 (c_X10_looked_none hr hz) rfl rfl rfl ⟨rfl, rfl⟩ (Nat.le_of_ble_eq_true rfl) ?_
  refine r_istore_2 d_X10_tear_5 (Nat.le_of_ble_eq_true rfl) (fun w hw => by cases hw <;> rfl) ?_
  refine r_iload_2 d_X10_tear_6 ?_
  refine r_if_ge d_X10_tear_7 (fun c7 => ?_) (fun c7 => ?_)
  · -- taken at 7
    exact absurd c7 (by decide)
  · -- not taken at 7
    refine r_iload_2 d_X10_tear_10 ?_
    refine r_ireturn d_X10_tear_11 ⟨_, rfl, rfl⟩ ?_
    exact ⟨rfl, rfl⟩
set_option maxRecDepth 10000 in
set_option maxHeartbeats 4000000 in
theorem c_X10_tear {h : pm_H} {mi : Nat → Int32} {ml : Nat → Int64} {A : Nat → Nat → Int32} {B : Nat → Nat → Int64} {r z : Nat} (hr : r < 4) (hz : A 62 r = nI z) (hz64 : z ≤ 64) : pm_Cv e_X10_tear [.ref 44, .int (nI r)] (pmM h mi ml A B) (.int 1) (pmM h mi ml (va_up A 62 (upd (A 62) r (-9))) B) := by
  refine pm_enter rfl (Nat.le_of_ble_eq_true rfl) ?_
  show pm_V e_X10_tear 0 [some (.ref 44), some (.int (nI r)), none] [] (pmM h mi ml A B) (0, 0) _
  refine r_aload_0 d_X10_tear_0 ?_
  refine r_iload_1 d_X10_tear_1 ?_
  refine r_V1 d_X10_tear_2 (c_X10_looked hr hz hz64) rfl rfl rfl ⟨rfl, rfl⟩ (Nat.le_of_ble_eq_true rfl) ?_
  show pm_V _ _ _ (.int (nI 0) :: _) _ _ _
  refine r_istore_2 d_X10_tear_5 (Nat.le_of_ble_eq_true rfl) (fun w hw => by cases hw <;> rfl) ?_
  refine r_iload_2 d_X10_tear_6 ?_
  refine r_if_ge d_X10_tear_7 (fun c7 => ?_) (fun c7 => absurd (by decide) c7)
  clear c7
  refine r_aload_0 d_X10_tear_12 ?_
  refine r_get d_X10_tear_13 s10_sizes rfl rfl ?_
  refine r_iload_1 d_X10_tear_16 ?_
  refine r_push d_X10_tear_17 ?_
  refine r_iast d_X10_tear_19 rfl (pm_ixN (by omega) (by omega)) ?_
  rw [pmM_sizes]
  refine r_push (v := nI 1) d_X10_tear_20 ?_
  refine r_ireturn d_X10_tear_21 ⟨_, rfl, rfl⟩ ?_
  exact ⟨rfl, rfl⟩
