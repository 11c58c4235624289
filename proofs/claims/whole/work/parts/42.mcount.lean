def m_rz (A : Nat → Nat → Int32) (rz : Nat → Option Nat) : Prop := ∀ r, r < 4 → match rz r with
  | none => A 62 r = -9
  | some z => A 62 r = nI z ∧ z ≤ 64
theorem m_rz_n {A : Nat → Nat → Int32} {rz : Nat → Option Nat} (h : m_rz A rz) {r : Nat} (hr : r < 4) (e : rz r = none) : A 62 r = -9 := by
  have := h r hr
  rw [e] at this
  exact this
theorem m_rz_s {A : Nat → Nat → Int32} {rz : Nat → Option Nat} (h : m_rz A rz) {r z : Nat} (hr : r < 4) (e : rz r = some z) : A 62 r = nI z ∧ z ≤ 64 := by
  have := h r hr
  rw [e] at this
  exact this
def sp_th (rz : Nat → Option Nat) : Nat → Nat := sp_ct (fun r => (rz r).isSome)
set_option maxRecDepth 10000 in
set_option maxHeartbeats 4000000 in
theorem lp_X10_count {h : pm_H} {mi : Nat → Int32} {ml : Nat → Int64} {A : Nat → Nat → Int32} {B : Nat → Nat → Int64} {rz : Nat → Option Nat} (hrz : m_rz A rz) {F : Option Value → pm_H → Prop} {b : Nat × Nat} (K : pm_V e_X10_count 37 [some (.ref 44), some (.int (nI 1)), some (.int (nI (sp_th rz 4))), some (.int (nI 4))] [] (pmM h mi ml A B) b F) : ∀ (d i : Nat), i + d = 4 → pm_V e_X10_count 4 [some (.ref 44), some (.int (nI 1)), some (.int (nI (sp_th rz i))), some (.int (nI i))] [] (pmM h mi ml A B) b F := by
  intro d
  induction d with
  | zero =>
    intro i hi
    obtain rfl : i = 4 := by omega
    refine r_iload_3 d_X10_count_4 ?_
    refine r_push (v := nI 4) d_X10_count_5 ?_
    refine r_icmp_ge d_X10_count_6 (fun c6 => ?_) (fun c6 => absurd (by decide) c6)
    clear c6
    exact K
  | succ d ih =>
    intro i hi
    have ih9 := ih (i + 1) (by omega)
    have e9 : sp_th rz (i + 1) = sp_th rz i + pm_bl (rz i).isSome := rfl
    cases hx : rz i with
    | none =>
      have hz := m_rz_n hrz (by omega) hx
      rw [e9, hx] at ih9
      refine r_iload_3 d_X10_count_4 ?_
      refine r_push (v := nI 4) d_X10_count_5 ?_
      refine r_icmp_ge d_X10_count_6 (fun c6 => ?_) (fun c6 => ?_)
      · -- taken at 6
        have c6 : 4 ≤ i := (nI_leI (a := 4) (b := i) (by omega) (by omega)).mp c6
        exfalso; omega
      · -- not taken at 6
        have c6 : ¬ 4 ≤ i := fun zz9 => c6 ((nI_leI (a := 4) (b := i) (by omega) (by omega)).mpr zz9)
        refine r_iload_1 d_X10_count_9 ?_
        refine r_push (v := nI 1) d_X10_count_10 ?_
        refine r_icmp_ne d_X10_count_11 (fun c11 => absurd (by decide) c11) (fun c11 => ?_)
        clear c11
        refine r_iload_2 d_X10_count_14 ?_
        refine r_aload_0 d_X10_count_15 ?_
        refine r_get d_X10_count_16 s10_sizes rfl rfl ?_
        refine r_iload_3 d_X10_count_19 ?_
        refine r_iald d_X10_count_20 rfl (pm_ixN (by omega) (by omega)) ?_
        rw [hz]
        refine r_if_lt d_X10_count_21 (fun c21 => ?_) (fun c21 => ?_)
        · -- taken at 21
          refine r_push (v := nI 0) d_X10_count_28 ?_
          refine r_iadd d_X10_count_29 ?_
          rw [nI_add]
          refine r_istore_2 d_X10_count_30 (Nat.le_of_ble_eq_true rfl) (fun w hw => by cases hw <;> rfl) ?_
          refine r_iinc_3 d_X10_count_31 (Nat.le_of_ble_eq_true rfl) (fun w hw => by cases hw <;> rfl) ?_
          rw [nI_1]
          refine r_goto d_X10_count_34 ?_
          exact ih9
        · -- not taken at 21
          exact absurd (show (-9 : Int32) < 0 by decide) c21
    | some z =>
      obtain ⟨hz, hz64⟩ := m_rz_s hrz (by omega) hx
      rw [e9, hx] at ih9
      refine r_iload_3 d_X10_count_4 ?_
      refine r_push (v := nI 4) d_X10_count_5 ?_
      refine r_icmp_ge d_X10_count_6 (fun c6 => ?_) (fun c6 => ?_)
      · -- taken at 6
        have c6 : 4 ≤ i := (nI_leI (a := 4) (b := i) (by omega) (by omega)).mp c6
        exfalso; omega
      · -- not taken at 6
        have c6 : ¬ 4 ≤ i := fun zz9 => c6 ((nI_leI (a := 4) (b := i) (by omega) (by omega)).mpr zz9)
        refine r_iload_1 d_X10_count_9 ?_
        refine r_push (v := nI 1) d_X10_count_10 ?_
        refine r_icmp_ne d_X10_count_11 (fun c11 => absurd (by decide) c11) (fun c11 => ?_)
        clear c11
        refine r_iload_2 d_X10_count_14 ?_
        refine r_aload_0 d_X10_count_15 ?_
        refine r_get d_X10_count_16 s10_sizes rfl rfl ?_
        refine r_iload_3 d_X10_count_19 ?_
        refine r_iald d_X10_count_20 rfl (pm_ixN (by omega) (by omega)) ?_
        rw [hz]
        refine r_if_lt d_X10_count_21 (fun c21 => ?_) (fun c21 => ?_)
        · -- taken at 21
          have c21 : z < 0 := (nI_ltI (a := z) (b := 0) (by omega) (by omega)).mp c21
          exfalso; omega
        · -- not taken at 21
          have c21 : ¬ z < 0 := fun zz9 => c21 ((nI_ltI (a := z) (b := 0) (by omega) (by omega)).mpr zz9)
          refine r_push (v := nI 1) d_X10_count_24 ?_
          refine r_goto d_X10_count_25 ?_
          refine r_iadd d_X10_count_29 ?_
          rw [nI_add]
          refine r_istore_2 d_X10_count_30 (Nat.le_of_ble_eq_true rfl) (fun w hw => by cases hw <;> rfl) ?_
          refine r_iinc_3 d_X10_count_31 (Nat.le_of_ble_eq_true rfl) (fun w hw => by cases hw <;> rfl) ?_
          rw [nI_1]
          refine r_goto d_X10_count_34 ?_
          exact ih9
set_option maxRecDepth 10000 in
set_option maxHeartbeats 4000000 in
theorem lq_X10_count {h : pm_H} {mi : Nat → Int32} {ml : Nat → Int64} {A : Nat → Nat → Int32} {B : Nat → Nat → Int64} {g : Nat → Nat} (hg : ∀ j, j < 48 → A 58 j = nI (g j) ∧ 6 ≤ g j ∧ g j ≤ 9) {F : Option Value → pm_H → Prop} {b : Nat × Nat}  (K : pm_V e_X10_count 86 [some (.ref 44), some (.int (nI 2)), some (.int (nI (sp_old g 48))), some (.int (nI 48))] [] (pmM h mi ml A B) b F) : ∀ (d i : Nat), i + d = 48 → pm_V e_X10_count 39 [some (.ref 44), some (.int (nI 2)), some (.int (nI (sp_old g i))), some (.int (nI i))] [] (pmM h mi ml A B) b F := by
  intro d
  induction d with
  | zero =>
    intro i hi
    obtain rfl : i = 48 := by omega
    refine r_iload_3 d_X10_count_39 ?_
    refine r_push (v := nI 48) d_X10_count_40 ?_
    refine r_icmp_ge d_X10_count_42 (fun c42 => ?_) (fun c42 => absurd (by decide) c42)
    clear c42
    exact K
  | succ d ih =>
    intro i hi
    refine r_iload_3 d_X10_count_39 ?_
    refine r_push (v := nI 48) d_X10_count_40 ?_
    refine r_icmp_ge d_X10_count_42 (fun c42 => ?_) (fun c42 => ?_)
    · -- taken at 42
      have c42 : 48 ≤ i := (nI_leI (a := 48) (b := i) (by omega) (by omega)).mp c42
      exfalso; omega
    · -- not taken at 42
      have c42 : ¬ 48 ≤ i := fun zz9 => c42 ((nI_leI (a := 48) (b := i) (by omega) (by omega)).mpr zz9)
      refine r_iload_1 d_X10_count_45 ?_
      refine r_push (v := nI 2) d_X10_count_46 ?_
      refine r_icmp_ne d_X10_count_47 (fun c47 => absurd (by decide) c47) (fun c47 => ?_)
      clear c47
      refine r_iload_2 d_X10_count_50 ?_
      refine r_aload_0 d_X10_count_51 ?_
      refine r_get d_X10_count_52 s10_figures rfl rfl ?_
      refine r_iload_3 d_X10_count_55 ?_
      have hgi := hg i (by omega)
      have hol := sp_old_le g i
      refine r_iald d_X10_count_56 rfl (pm_ixN (by omega) (by omega)) ?_
      rw [hgi.1]
      refine r_push (v := nI 6) d_X10_count_57 ?_
      refine r_icmp_eq d_X10_count_59 (fun c59 => ?_) (fun c59 => ?_)
      · -- taken at 59
        have c59 : (g i) = 6 := (nI_eq (a := (g i)) (b := 6) (by omega) (by omega)).mp c59
        refine r_push (v := nI 1) d_X10_count_73 ?_
        refine r_goto d_X10_count_74 ?_
        refine r_iadd d_X10_count_78 ?_
        rw [nI_add]
        refine r_istore_2 d_X10_count_79 (Nat.le_of_ble_eq_true rfl) (fun w hw => by cases hw <;> rfl) ?_
        refine r_iinc_3 d_X10_count_80 (Nat.le_of_ble_eq_true rfl) (fun w hw => by cases hw <;> rfl) ?_
        rw [nI_1]
        refine r_goto d_X10_count_83 ?_
        have e : sp_old g (i + 1) = sp_old g i + (if g i = 6 ∨ g i = 9 then 1 else 0) := rfl
        first
        | (rw [show sp_old g i + 1 = sp_old g (i + 1) by rw [e, if_pos (by omega)]]; exact ih (i + 1) (by omega))
        | (rw [show sp_old g i + 0 = sp_old g (i + 1) by rw [e, if_neg (by omega)]]; exact ih (i + 1) (by omega))
      · -- not taken at 59
        have c59 : ¬ (g i) = 6 := fun zz9 => c59 ((nI_eq (a := (g i)) (b := 6) (by omega) (by omega)).mpr zz9)
        refine r_aload_0 d_X10_count_62 ?_
        refine r_get d_X10_count_63 s10_figures rfl rfl ?_
        refine r_iload_3 d_X10_count_66 ?_
        refine r_iald d_X10_count_67 rfl (pm_ixN (by omega) (by omega)) ?_
        rw [hgi.1]
        refine r_push (v := nI 9) d_X10_count_68 ?_
        refine r_icmp_ne d_X10_count_70 (fun c70 => ?_) (fun c70 => ?_)
        · -- taken at 70
          have c70 : ¬ (g i) = 9 := fun zz9 => c70 ((nI_eq (a := (g i)) (b := 9) (by omega) (by omega)).mpr zz9)
          refine r_push (v := nI 0) d_X10_count_77 ?_
          refine r_iadd d_X10_count_78 ?_
          rw [nI_add]
          refine r_istore_2 d_X10_count_79 (Nat.le_of_ble_eq_true rfl) (fun w hw => by cases hw <;> rfl) ?_
          refine r_iinc_3 d_X10_count_80 (Nat.le_of_ble_eq_true rfl) (fun w hw => by cases hw <;> rfl) ?_
          rw [nI_1]
          refine r_goto d_X10_count_83 ?_
          have e : sp_old g (i + 1) = sp_old g i + (if g i = 6 ∨ g i = 9 then 1 else 0) := rfl
          first
          | (rw [show sp_old g i + 1 = sp_old g (i + 1) by rw [e, if_pos (by omega)]]; exact ih (i + 1) (by omega))
          | (rw [show sp_old g i + 0 = sp_old g (i + 1) by rw [e, if_neg (by omega)]]; exact ih (i + 1) (by omega))
        · -- not taken at 70
          have c70 : (g i) = 9 := (nI_eq (a := (g i)) (b := 9) (by omega) (by omega)).mp c70
          refine r_push (v := nI 1) d_X10_count_73 ?_
          refine r_goto d_X10_count_74 ?_
          refine r_iadd d_X10_count_78 ?_
          rw [nI_add]
          refine r_istore_2 d_X10_count_79 (Nat.le_of_ble_eq_true rfl) (fun w hw => by cases hw <;> rfl) ?_
          refine r_iinc_3 d_X10_count_80 (Nat.le_of_ble_eq_true rfl) (fun w hw => by cases hw <;> rfl) ?_
          rw [nI_1]
          refine r_goto d_X10_count_83 ?_
          have e : sp_old g (i + 1) = sp_old g i + (if g i = 6 ∨ g i = 9 then 1 else 0) := rfl
          first
          | (rw [show sp_old g i + 1 = sp_old g (i + 1) by rw [e, if_pos (by omega)]]; exact ih (i + 1) (by omega))
          | (rw [show sp_old g i + 0 = sp_old g (i + 1) by rw [e, if_neg (by omega)]]; exact ih (i + 1) (by omega))
set_option maxRecDepth 10000 in
set_option maxHeartbeats 4000000 in
theorem c_X10_count0 {h : pm_H} {mi : Nat → Int32} {ml : Nat → Int64} {A : Nat → Nat → Int32} {B : Nat → Nat → Int64}  : pm_Cv e_X10_count [.ref 44, .int (nI 0)] (pmM h mi ml A B) (.int (mi 1)) (pmM h mi ml A B) := by
  refine pm_enter rfl (Nat.le_of_ble_eq_true rfl) ?_
  show pm_V e_X10_count 0 [some (.ref 44), some (.int (nI 0)), none, none] [] (pmM h mi ml A B) (0, 0) _
  refine r_push (v := nI 0) d_X10_count_0 ?_
  refine r_istore_2 d_X10_count_1 (Nat.le_of_ble_eq_true rfl) (fun w hw => by cases hw <;> rfl) ?_
  refine r_push (v := nI 0) d_X10_count_2 ?_
  refine r_istore_3 d_X10_count_3 (Nat.le_of_ble_eq_true rfl) (fun w hw => by cases hw <;> rfl) ?_
  refine r_iload_3 d_X10_count_4 ?_
  refine r_push (v := nI 4) d_X10_count_5 ?_
  refine r_icmp_ge d_X10_count_6 (fun c6 => absurd c6 (by decide)) (fun c6 => ?_)
  clear c6
  refine r_iload_1 d_X10_count_9 ?_
  refine r_push (v := nI 1) d_X10_count_10 ?_
  refine r_icmp_ne d_X10_count_11 (fun c11 => ?_) (fun c11 => absurd c11 (by decide))
  clear c11
  refine r_push (v := nI 0) d_X10_count_37 ?_
  refine r_istore_3 d_X10_count_38 (Nat.le_of_ble_eq_true rfl) (fun w hw => by cases hw <;> rfl) ?_
  refine r_iload_3 d_X10_count_39 ?_
  refine r_push (v := nI 48) d_X10_count_40 ?_
  refine r_icmp_ge d_X10_count_42 (fun c42 => absurd c42 (by decide)) (fun c42 => ?_)
  clear c42
  refine r_iload_1 d_X10_count_45 ?_
  refine r_push (v := nI 2) d_X10_count_46 ?_
  refine r_icmp_ne d_X10_count_47 (fun c47 => ?_) (fun c47 => absurd c47 (by decide))
  clear c47
  refine r_iload_1 d_X10_count_86 ?_
  refine r_if_ne d_X10_count_87 (fun c87 => absurd (by decide) c87) (fun c87 => ?_)
  clear c87
  refine r_aload_0 d_X10_count_90 ?_
  refine r_get d_X10_count_91 s10_casters rfl rfl ?_
  refine r_goto d_X10_count_94 ?_
  refine r_ireturn d_X10_count_111 ⟨_, rfl, rfl⟩ ?_
  exact ⟨rfl, rfl⟩
set_option maxRecDepth 10000 in
set_option maxHeartbeats 4000000 in
theorem c_X10_count1 {h : pm_H} {mi : Nat → Int32} {ml : Nat → Int64} {A : Nat → Nat → Int32} {B : Nat → Nat → Int64} {rz : Nat → Option Nat} (hrz : m_rz A rz) : pm_Cv e_X10_count [.ref 44, .int (nI 1)] (pmM h mi ml A B) (.int (nI (sp_th rz 4))) (pmM h mi ml A B) := by
  refine pm_enter rfl (Nat.le_of_ble_eq_true rfl) ?_
  show pm_V e_X10_count 0 [some (.ref 44), some (.int (nI 1)), none, none] [] (pmM h mi ml A B) (0, 0) _
  refine r_push (v := nI 0) d_X10_count_0 ?_
  refine r_istore_2 d_X10_count_1 (Nat.le_of_ble_eq_true rfl) (fun w hw => by cases hw <;> rfl) ?_
  refine r_push (v := nI 0) d_X10_count_2 ?_
  refine r_istore_3 d_X10_count_3 (Nat.le_of_ble_eq_true rfl) (fun w hw => by cases hw <;> rfl) ?_
  refine lp_X10_count hrz ?_ 4 0 (by omega)
  refine r_push (v := nI 0) d_X10_count_37 ?_
  refine r_istore_3 d_X10_count_38 (Nat.le_of_ble_eq_true rfl) (fun w hw => by cases hw <;> rfl) ?_
  refine r_iload_3 d_X10_count_39 ?_
  refine r_push (v := nI 48) d_X10_count_40 ?_
  refine r_icmp_ge d_X10_count_42 (fun c42 => absurd c42 (by decide)) (fun c42 => ?_)
  clear c42
  refine r_iload_1 d_X10_count_45 ?_
  refine r_push (v := nI 2) d_X10_count_46 ?_
  refine r_icmp_ne d_X10_count_47 (fun c47 => ?_) (fun c47 => absurd c47 (by decide))
  clear c47
  refine r_iload_1 d_X10_count_86 ?_
  refine r_if_ne d_X10_count_87 (fun c87 => ?_) (fun c87 => absurd c87 (by decide))
  clear c87
  refine r_iload_1 d_X10_count_97 ?_
  refine r_push (v := nI 1) d_X10_count_98 ?_
  refine r_push (v := nI 2) d_X10_count_99 ?_
  refine r_S3 d_X10_count_100 (c_X10_inN (by omega) (by omega) (by omega)) ⟨rfl, rfl⟩ (Nat.le_of_ble_eq_true rfl) ?_
  refine r_if_eq d_X10_count_103 (fun c103 => absurd c103 (by decide)) (fun c103 => ?_)
  clear c103
  refine r_iload_2 d_X10_count_106 ?_
  refine r_goto d_X10_count_107 ?_
  refine r_ireturn d_X10_count_111 ⟨_, rfl, rfl⟩ ?_
  exact ⟨rfl, rfl⟩
set_option maxRecDepth 10000 in
set_option maxHeartbeats 4000000 in
theorem c_X10_count2 {h : pm_H} {mi : Nat → Int32} {ml : Nat → Int64} {A : Nat → Nat → Int32} {B : Nat → Nat → Int64} {g : Nat → Nat} (hg : ∀ j, j < 48 → A 58 j = nI (g j) ∧ 6 ≤ g j ∧ g j ≤ 9) : pm_Cv e_X10_count [.ref 44, .int (nI 2)] (pmM h mi ml A B) (.int (nI (sp_old g 48))) (pmM h mi ml A B) := by
  refine pm_enter rfl (Nat.le_of_ble_eq_true rfl) ?_
  show pm_V e_X10_count 0 [some (.ref 44), some (.int (nI 2)), none, none] [] (pmM h mi ml A B) (0, 0) _
  refine r_push (v := nI 0) d_X10_count_0 ?_
  refine r_istore_2 d_X10_count_1 (Nat.le_of_ble_eq_true rfl) (fun w hw => by cases hw <;> rfl) ?_
  refine r_push (v := nI 0) d_X10_count_2 ?_
  refine r_istore_3 d_X10_count_3 (Nat.le_of_ble_eq_true rfl) (fun w hw => by cases hw <;> rfl) ?_
  refine r_iload_3 d_X10_count_4 ?_
  refine r_push (v := nI 4) d_X10_count_5 ?_
  refine r_icmp_ge d_X10_count_6 (fun c6 => absurd c6 (by decide)) (fun c6 => ?_)
  clear c6
  refine r_iload_1 d_X10_count_9 ?_
  refine r_push (v := nI 1) d_X10_count_10 ?_
  refine r_icmp_ne d_X10_count_11 (fun c11 => ?_) (fun c11 => absurd c11 (by decide))
  clear c11
  refine r_push (v := nI 0) d_X10_count_37 ?_
  refine r_istore_3 d_X10_count_38 (Nat.le_of_ble_eq_true rfl) (fun w hw => by cases hw <;> rfl) ?_
  refine lq_X10_count hg ?_ 48 0 (by omega)
  refine r_iload_1 d_X10_count_86 ?_
  refine r_if_ne d_X10_count_87 (fun c87 => ?_) (fun c87 => absurd c87 (by decide))
  clear c87
  refine r_iload_1 d_X10_count_97 ?_
  refine r_push (v := nI 1) d_X10_count_98 ?_
  refine r_push (v := nI 2) d_X10_count_99 ?_
  refine r_S3 d_X10_count_100 (c_X10_inN (by omega) (by omega) (by omega)) ⟨rfl, rfl⟩ (Nat.le_of_ble_eq_true rfl) ?_
  refine r_if_eq d_X10_count_103 (fun c103 => absurd c103 (by decide)) (fun c103 => ?_)
  clear c103
  refine r_iload_2 d_X10_count_106 ?_
  refine r_goto d_X10_count_107 ?_
  refine r_ireturn d_X10_count_111 ⟨_, rfl, rfl⟩ ?_
  exact ⟨rfl, rfl⟩
set_option maxRecDepth 10000 in
set_option maxHeartbeats 4000000 in
theorem c_X10_count3 {h : pm_H} {mi : Nat → Int32} {ml : Nat → Int64} {A : Nat → Nat → Int32} {B : Nat → Nat → Int64} {w : Int32} (h0 : w ≠ 0) (h12 : sp_in w 1 2 = false) : pm_Cv e_X10_count [.ref 44, .int w] (pmM h mi ml A B) (.int (-1)) (pmM h mi ml A B) := by
  have h1 : w ≠ 1 := fun e => by rw [e] at h12; exact absurd h12 (by decide)
  have h2 : w ≠ 2 := fun e => by rw [e] at h12; exact absurd h12 (by decide)
  refine pm_enter rfl (Nat.le_of_ble_eq_true rfl) ?_
  show pm_V e_X10_count 0 [some (.ref 44), some (.int w), none, none] [] (pmM h mi ml A B) (0, 0) _
  refine r_push (v := nI 0) d_X10_count_0 ?_
  refine r_istore_2 d_X10_count_1 (Nat.le_of_ble_eq_true rfl) (fun w hw => by cases hw <;> rfl) ?_
  refine r_push (v := nI 0) d_X10_count_2 ?_
  refine r_istore_3 d_X10_count_3 (Nat.le_of_ble_eq_true rfl) (fun w hw => by cases hw <;> rfl) ?_
  refine r_iload_3 d_X10_count_4 ?_
  refine r_push (v := nI 4) d_X10_count_5 ?_
  refine r_icmp_ge d_X10_count_6 (fun c6 => absurd c6 (by decide)) (fun c6 => ?_)
  clear c6
  refine r_iload_1 d_X10_count_9 ?_
  refine r_push (v := nI 1) d_X10_count_10 ?_
  refine r_icmp_ne d_X10_count_11 (fun c11 => ?_) (fun c11 => ?_)
  · -- taken at 11
    refine r_push (v := nI 0) d_X10_count_37 ?_
    refine r_istore_3 d_X10_count_38 (Nat.le_of_ble_eq_true rfl) (fun w hw => by cases hw <;> rfl) ?_
    refine r_iload_3 d_X10_count_39 ?_
    refine r_push (v := nI 48) d_X10_count_40 ?_
    refine r_icmp_ge d_X10_count_42 (fun c42 => absurd c42 (by decide)) (fun c42 => ?_)
    clear c42
    refine r_iload_1 d_X10_count_45 ?_
    refine r_push (v := nI 2) d_X10_count_46 ?_
    refine r_icmp_ne d_X10_count_47 (fun c47 => ?_) (fun c47 => ?_)
    · -- taken at 47
      refine r_iload_1 d_X10_count_86 ?_
      refine r_if_ne d_X10_count_87 (fun c87 => ?_) (fun c87 => ?_)
      · -- taken at 87
        refine r_iload_1 d_X10_count_97 ?_
        refine r_push (v := nI 1) d_X10_count_98 ?_
        refine r_push (v := nI 2) d_X10_count_99 ?_
        refine r_S3 d_X10_count_100 c_X10_in ⟨rfl, rfl⟩ (Nat.le_of_ble_eq_true rfl) ?_
        rw [show sp_in w (nI 1) (nI 2) = false from h12]
        show pm_V _ _ _ (.int (nI 0) :: _) _ _ _
        refine r_if_eq d_X10_count_103 (fun c103 => ?_) (fun c103 => absurd (by decide) c103)
        clear c103
        refine r_push d_X10_count_110 ?_
        refine r_ireturn d_X10_count_111 ⟨_, rfl, rfl⟩ ?_
        exact ⟨rfl, rfl⟩
      · -- not taken at 87
        exact absurd c87 h0
    · -- not taken at 47
      exact absurd c47 h2
  · -- not taken at 11
    exact absurd c11 h1
def sp_d1 (h : Int64) (x : Int32) : Int64 := 31 * h + x.toInt64
theorem sp_d1_eq (h : Int64) (x : Int32) : sp_d1 h x = 31 * h + x.toInt64 := rfl
def sp_df (f : Nat → Int32) : Nat → Int64 → Int64
  | 0, h => h
  | n + 1, h => sp_d1 (sp_df f n h) (f n)
theorem sp_df4 (f : Nat → Int32) (h : Int64) : sp_df f 4 h = sp_d1 (sp_d1 (sp_d1 (sp_d1 h (f 0)) (f 1)) (f 2)) (f 3) := rfl
theorem sp_df_s (f : Nat → Int32) (n : Nat) (h : Int64) : sp_df f (n + 1) h = sp_d1 (sp_df f n h) (f n) := rfl
def sp_dc (C : Nat → sp_Cs) : Nat → Int64 → Int64
  | 0, h => h
  | n + 1, h => sp_df (fun w => sp_tell (C n) (nI w)) 4 (sp_dc C n h)
def sp_dr (rz : Nat → Option Nat) (v : Nat → Nat → Int32) : Nat → Int64 → Int64
  | 0, h => h
  | r + 1, h => match rz r with
    | none => sp_d1 (sp_dr rz v r h) (-1)
    | some z => sp_df (v r) z (sp_d1 (sp_dr rz v r h) (nI z))
theorem sp_dr_n {rz : Nat → Option Nat} {v : Nat → Nat → Int32} {r : Nat} {h : Int64} (e : rz r = none) : sp_dr rz v (r + 1) h = sp_d1 (sp_dr rz v r h) (-1) := by rw [sp_dr, e]
theorem sp_dr_s {rz : Nat → Option Nat} {v : Nat → Nat → Int32} {r z : Nat} {h : Int64} (e : rz r = some z) : sp_dr rz v (r + 1) h = sp_df (v r) z (sp_d1 (sp_dr rz v r h) (nI z)) := by rw [sp_dr, e]
set_option maxRecDepth 10000 in
set_option maxHeartbeats 4000000 in
theorem lp_X10_digest {h : pm_H} {mi : Nat → Int32} {ml : Nat → Int64} {A : Nat → Nat → Int32} {B : Nat → Nat → Int64} {cn : Nat} {C : Nat → sp_Cs} (hCC : m_CC mi A cn C) {F : Option Value → pm_H → Prop} {b : Nat × Nat} (K : ∀ o, pm_V e_X10_digest 50 [some (.ref 44), some (.long (sp_dc C cn 17)), none, some (.int (nI cn)), o] [] (pmM h mi ml A B) b F) : ∀ (d i : Nat), i + d = cn → ∀ o, pm_V e_X10_digest 6 [some (.ref 44), some (.long (sp_dc C i 17)), none, some (.int (nI i)), o] [] (pmM h mi ml A B) b F := by
  obtain ⟨hcn, hn10, hC⟩ := hCC
  intro d
  induction d with
  | zero =>
    intro i hi o
    rw [show i = cn by omega]
    refine r_iload_3 d_X10_digest_6 ?_
    refine r_aload_0 d_X10_digest_7 ?_
    refine r_get d_X10_digest_8 s10_casters rfl rfl ?_
    rw [hcn]
    refine r_icmp_ge d_X10_digest_11 (fun c11 => ?_) (fun c11 => ?_)
    · -- taken at 11
      have c11 : cn ≤ cn := (nI_leI (a := cn) (b := cn) (by omega) (by omega)).mp c11
      exact K _
    · -- not taken at 11
      have c11 : ¬ cn ≤ cn := fun zz9 => c11 ((nI_leI (a := cn) (b := cn) (by omega) (by omega)).mpr zz9)
      exfalso; omega
  | succ d ih =>
    intro i hi o
    have hs := hC i (by omega)
    have ih9 := ih (i + 1) (by omega)
    rw [show sp_dc C (i + 1) 17 = sp_df (fun w => sp_tell (C i) (nI w)) 4 (sp_dc C i 17) from rfl, sp_df4] at ih9
    refine r_iload_3 d_X10_digest_6 ?_
    refine r_aload_0 d_X10_digest_7 ?_
    refine r_get d_X10_digest_8 s10_casters rfl rfl ?_
    rw [hcn]
    refine r_icmp_ge d_X10_digest_11 (fun c11 => ?_) (fun c11 => ?_)
    · -- taken at 11
      have c11 : cn ≤ i := (nI_leI (a := cn) (b := i) (by omega) (by omega)).mp c11
      exfalso; omega
    · -- not taken at 11
      have c11 : ¬ cn ≤ i := fun zz9 => c11 ((nI_leI (a := cn) (b := i) (by omega) (by omega)).mpr zz9)
      refine r_push (v := nI 0) d_X10_digest_14 ?_
      refine r_istore_4 d_X10_digest_15 (Nat.le_of_ble_eq_true rfl) (fun w hw => by cases hw <;> rfl) ?_
      refine r_iload_4 d_X10_digest_17 ?_
      refine r_push (v := nI 3) d_X10_digest_19 ?_
      refine r_icmp_gt d_X10_digest_20 (fun c20 => absurd c20 (by decide)) (fun c20 => ?_)
      clear c20
      refine r_pushl d_X10_digest_23 ?_
      refine r_lload_1 d_X10_digest_26 ?_
      refine r_lmul d_X10_digest_27 ?_
      refine r_aload_0 d_X10_digest_28 ?_
      refine r_iload_3 d_X10_digest_29 ?_
      refine r_iload_4 d_X10_digest_30 ?_
      refine r_V2 d_X10_digest_32 (c_X10_tells (by omega) hs) rfl rfl rfl ⟨rfl, rfl⟩ (Nat.le_of_ble_eq_true rfl) ?_
      refine r_i2l d_X10_digest_35 ?_
      refine r_ladd d_X10_digest_36 ?_
      rw [← sp_d1_eq]
      refine r_lstore_1 d_X10_digest_37 (Nat.le_of_ble_eq_true rfl) (fun w hw => by cases hw <;> rfl) ?_
      refine r_iinc_4 d_X10_digest_38 (Nat.le_of_ble_eq_true rfl) (fun w hw => by cases hw <;> rfl) ?_
      rw [show nI 0 + 1 = nI 1 from rfl]
      refine r_goto d_X10_digest_41 ?_
      refine r_iload_4 d_X10_digest_17 ?_
      refine r_push (v := nI 3) d_X10_digest_19 ?_
      refine r_icmp_gt d_X10_digest_20 (fun c20 => absurd c20 (by decide)) (fun c20 => ?_)
      clear c20
      refine r_pushl d_X10_digest_23 ?_
      refine r_lload_1 d_X10_digest_26 ?_
      refine r_lmul d_X10_digest_27 ?_
      refine r_aload_0 d_X10_digest_28 ?_
      refine r_iload_3 d_X10_digest_29 ?_
      refine r_iload_4 d_X10_digest_30 ?_
      refine r_V2 d_X10_digest_32 (c_X10_tells (by omega) hs) rfl rfl rfl ⟨rfl, rfl⟩ (Nat.le_of_ble_eq_true rfl) ?_
      refine r_i2l d_X10_digest_35 ?_
      refine r_ladd d_X10_digest_36 ?_
      rw [← sp_d1_eq]
      refine r_lstore_1 d_X10_digest_37 (Nat.le_of_ble_eq_true rfl) (fun w hw => by cases hw <;> rfl) ?_
      refine r_iinc_4 d_X10_digest_38 (Nat.le_of_ble_eq_true rfl) (fun w hw => by cases hw <;> rfl) ?_
      rw [show nI 1 + 1 = nI 2 from rfl]
      refine r_goto d_X10_digest_41 ?_
      refine r_iload_4 d_X10_digest_17 ?_
      refine r_push (v := nI 3) d_X10_digest_19 ?_
      refine r_icmp_gt d_X10_digest_20 (fun c20 => absurd c20 (by decide)) (fun c20 => ?_)
      clear c20
      refine r_pushl d_X10_digest_23 ?_
      refine r_lload_1 d_X10_digest_26 ?_
      refine r_lmul d_X10_digest_27 ?_
      refine r_aload_0 d_X10_digest_28 ?_
      refine r_iload_3 d_X10_digest_29 ?_
      refine r_iload_4 d_X10_digest_30 ?_
      refine r_V2 d_X10_digest_32 (c_X10_tells (by omega) hs) rfl rfl rfl ⟨rfl, rfl⟩ (Nat.le_of_ble_eq_true rfl) ?_
      refine r_i2l d_X10_digest_35 ?_
      refine r_ladd d_X10_digest_36 ?_
      rw [← sp_d1_eq]
      refine r_lstore_1 d_X10_digest_37 (Nat.le_of_ble_eq_true rfl) (fun w hw => by cases hw <;> rfl) ?_
      refine r_iinc_4 d_X10_digest_38 (Nat.le_of_ble_eq_true rfl) (fun w hw => by cases hw <;> rfl) ?_
      rw [show nI 2 + 1 = nI 3 from rfl]
      refine r_goto d_X10_digest_41 ?_
      refine r_iload_4 d_X10_digest_17 ?_
      refine r_push (v := nI 3) d_X10_digest_19 ?_
      refine r_icmp_gt d_X10_digest_20 (fun c20 => absurd c20 (by decide)) (fun c20 => ?_)
      clear c20
      refine r_pushl d_X10_digest_23 ?_
      refine r_lload_1 d_X10_digest_26 ?_
      refine r_lmul d_X10_digest_27 ?_
      refine r_aload_0 d_X10_digest_28 ?_
      refine r_iload_3 d_X10_digest_29 ?_
      refine r_iload_4 d_X10_digest_30 ?_
      refine r_V2 d_X10_digest_32 (c_X10_tells (by omega) hs) rfl rfl rfl ⟨rfl, rfl⟩ (Nat.le_of_ble_eq_true rfl) ?_
      refine r_i2l d_X10_digest_35 ?_
      refine r_ladd d_X10_digest_36 ?_
      rw [← sp_d1_eq]
      refine r_lstore_1 d_X10_digest_37 (Nat.le_of_ble_eq_true rfl) (fun w hw => by cases hw <;> rfl) ?_
      refine r_iinc_4 d_X10_digest_38 (Nat.le_of_ble_eq_true rfl) (fun w hw => by cases hw <;> rfl) ?_
      rw [show nI 3 + 1 = nI 4 from rfl]
      refine r_goto d_X10_digest_41 ?_
      refine r_iload_4 d_X10_digest_17 ?_
      refine r_push (v := nI 3) d_X10_digest_19 ?_
      refine r_icmp_gt d_X10_digest_20 (fun c20 => ?_) (fun c20 => absurd (by decide) c20)
      clear c20
      refine r_iinc_3 d_X10_digest_44 (Nat.le_of_ble_eq_true rfl) (fun w hw => by cases hw <;> rfl) ?_
      rw [nI_1]
      refine r_goto d_X10_digest_47 ?_
      exact ih9 _
set_option maxRecDepth 10000 in
set_option maxHeartbeats 4000000 in
theorem lq_X10_digest {h : pm_H} {mi : Nat → Int32} {ml : Nat → Int64} {A : Nat → Nat → Int32} {B : Nat → Nat → Int64} {x : Int64} {o : Option Value} {F : Option Value → pm_H → Prop} {b : Nat × Nat} (K : pm_V e_X10_digest 78 [some (.ref 44), some (.long (sp_df (A 58) 48 x)), none, some (.int (nI 48)), o] [] (pmM h mi ml A B) b F) : ∀ (d i : Nat), i + d = 48 → pm_V e_X10_digest 52 [some (.ref 44), some (.long (sp_df (A 58) i x)), none, some (.int (nI i)), o] [] (pmM h mi ml A B) b F := by
  intro d
  induction d with
  | zero =>
    intro i hi
    obtain rfl : i = 48 := by omega
    refine r_iload_3 d_X10_digest_52 ?_
    refine r_push (v := nI 48) d_X10_digest_53 ?_
    refine r_icmp_ge d_X10_digest_55 (fun c55 => ?_) (fun c55 => absurd (by decide) c55)
    clear c55
    exact K
  | succ d ih =>
    intro i hi
    refine r_iload_3 d_X10_digest_52 ?_
    refine r_push (v := nI 48) d_X10_digest_53 ?_
    refine r_icmp_ge d_X10_digest_55 (fun c55 => ?_) (fun c55 => ?_)
    · -- taken at 55
      have c55 : 48 ≤ i := (nI_leI (a := 48) (b := i) (by omega) (by omega)).mp c55
      exfalso; omega
    · -- not taken at 55
      have c55 : ¬ 48 ≤ i := fun zz9 => c55 ((nI_leI (a := 48) (b := i) (by omega) (by omega)).mpr zz9)
      refine r_pushl d_X10_digest_58 ?_
      refine r_lload_1 d_X10_digest_61 ?_
      refine r_lmul d_X10_digest_62 ?_
      refine r_aload_0 d_X10_digest_63 ?_
      refine r_get d_X10_digest_64 s10_figures rfl rfl ?_
      refine r_iload_3 d_X10_digest_67 ?_
      refine r_iald d_X10_digest_68 rfl (pm_ixN (by omega) (by omega)) ?_
      refine r_i2l d_X10_digest_69 ?_
      refine r_ladd d_X10_digest_70 ?_
      rw [← sp_d1_eq]
      refine r_lstore_1 d_X10_digest_71 (Nat.le_of_ble_eq_true rfl) (fun w hw => by cases hw <;> rfl) ?_
      refine r_iinc_3 d_X10_digest_72 (Nat.le_of_ble_eq_true rfl) (fun w hw => by cases hw <;> rfl) ?_
      rw [nI_1]
      refine r_goto d_X10_digest_75 ?_
      have ih9 := ih (i + 1) (by omega)
      rw [sp_df_s] at ih9
      exact ih9
set_option maxRecDepth 10000 in
set_option maxHeartbeats 4000000 in
theorem lr_X10_digest {h : pm_H} {mi : Nat → Int32} {ml : Nat → Int64} {A : Nat → Nat → Int32} {B : Nat → Nat → Int64} {r z : Nat} (hr : r < 4) (hz : A 62 r = nI z) (hz64 : z ≤ 64) {x : Int64} {F : Option Value → pm_H → Prop} {b : Nat × Nat} (K : ∀ o, pm_V e_X10_digest 152 [some (.ref 44), some (.long (sp_df (fun q => A 63 (64 * r + q)) z x)), none, some (.int (nI r)), o] [] (pmM h mi ml A B) b F) : ∀ (d i : Nat), i + d = z → pm_V e_X10_digest 115 [some (.ref 44), some (.long (sp_df (fun q => A 63 (64 * r + q)) i x)), none, some (.int (nI r)), some (.int (nI i))] [] (pmM h mi ml A B) b F := by
  intro d
  induction d with
  | zero =>
    intro i hi
    rw [show i = z by omega]
    refine r_iload_4 d_X10_digest_115 ?_
    refine r_aload_0 d_X10_digest_117 ?_
    refine r_get d_X10_digest_118 s10_sizes rfl rfl ?_
    refine r_iload_3 d_X10_digest_121 ?_
    refine r_iald d_X10_digest_122 rfl (pm_ixN (by omega) (by omega)) ?_
    rw [hz]
    refine r_icmp_ge d_X10_digest_123 (fun c123 => ?_) (fun c123 => ?_)
    · -- taken at 123
      have c123 : z ≤ z := (nI_leI (a := z) (b := z) (by omega) (by omega)).mp c123
      exact K _
    · -- not taken at 123
      have c123 : ¬ z ≤ z := fun zz9 => c123 ((nI_leI (a := z) (b := z) (by omega) (by omega)).mpr zz9)
      exfalso; omega
  | succ d ih =>
    intro i hi
    refine r_iload_4 d_X10_digest_115 ?_
    refine r_aload_0 d_X10_digest_117 ?_
    refine r_get d_X10_digest_118 s10_sizes rfl rfl ?_
    refine r_iload_3 d_X10_digest_121 ?_
    refine r_iald d_X10_digest_122 rfl (pm_ixN (by omega) (by omega)) ?_
    rw [hz]
    refine r_icmp_ge d_X10_digest_123 (fun c123 => ?_) (fun c123 => ?_)
    · -- taken at 123
      have c123 : z ≤ i := (nI_leI (a := z) (b := i) (by omega) (by omega)).mp c123
      exfalso; omega
    · -- not taken at 123
      have c123 : ¬ z ≤ i := fun zz9 => c123 ((nI_leI (a := z) (b := i) (by omega) (by omega)).mpr zz9)
      refine r_pushl d_X10_digest_126 ?_
      refine r_lload_1 d_X10_digest_129 ?_
      refine r_lmul d_X10_digest_130 ?_
      refine r_aload_0 d_X10_digest_131 ?_
      refine r_get d_X10_digest_132 s10_rows rfl rfl ?_
      refine r_push (v := nI 64) d_X10_digest_135 ?_
      refine r_iload_3 d_X10_digest_137 ?_
      refine r_imul d_X10_digest_138 ?_
      rw [pk_mul]
      refine r_iload_4 d_X10_digest_139 ?_
      refine r_iadd d_X10_digest_141 ?_
      rw [nI_add]
      refine r_iald d_X10_digest_142 rfl (pm_ixN (by omega) (by omega)) ?_
      refine r_i2l d_X10_digest_143 ?_
      refine r_ladd d_X10_digest_144 ?_
      rw [← sp_d1_eq]
      refine r_lstore_1 d_X10_digest_145 (Nat.le_of_ble_eq_true rfl) (fun w hw => by cases hw <;> rfl) ?_
      refine r_iinc_4 d_X10_digest_146 (Nat.le_of_ble_eq_true rfl) (fun w hw => by cases hw <;> rfl) ?_
      rw [nI_1]
      refine r_goto d_X10_digest_149 ?_
      have ih9 := ih (i + 1) (by omega)
      rw [sp_df_s] at ih9
      exact ih9
set_option maxRecDepth 10000 in
set_option maxHeartbeats 4000000 in
theorem ls_X10_digest {h : pm_H} {mi : Nat → Int32} {ml : Nat → Int64} {A : Nat → Nat → Int32} {B : Nat → Nat → Int64} {rz : Nat → Option Nat} (hrz : m_rz A rz) {x : Int64} {F : Option Value → pm_H → Prop} {b : Nat × Nat} (K : ∀ o, pm_V e_X10_digest 158 [some (.ref 44), some (.long (sp_dr rz (fun r q => A 63 (64 * r + q)) 4 x)), none, some (.int (nI 4)), o] [] (pmM h mi ml A B) b F) : ∀ (d r : Nat), r + d = 4 → ∀ o, pm_V e_X10_digest 80 [some (.ref 44), some (.long (sp_dr rz (fun r q => A 63 (64 * r + q)) r x)), none, some (.int (nI r)), o] [] (pmM h mi ml A B) b F := by
  intro d
  induction d with
  | zero =>
    intro r hr o
    obtain rfl : r = 4 := by omega
    refine r_iload_3 d_X10_digest_80 ?_
    refine r_push (v := nI 4) d_X10_digest_81 ?_
    refine r_icmp_ge d_X10_digest_82 (fun c82 => ?_) (fun c82 => absurd (by decide) c82)
    clear c82
    exact K _
  | succ d ih =>
    intro r hr o
    have ih9 := ih (r + 1) (by omega)
    cases hx : rz r with
    | none =>
      have hz := m_rz_n hrz (by omega) hx
      rw [sp_dr_n hx] at ih9
      refine r_iload_3 d_X10_digest_80 ?_
      refine r_push (v := nI 4) d_X10_digest_81 ?_
      refine r_icmp_ge d_X10_digest_82 (fun c82 => ?_) (fun c82 => ?_)
      · -- taken at 82
        have c82 : 4 ≤ r := (nI_leI (a := 4) (b := r) (by omega) (by omega)).mp c82
        exfalso; omega
      · -- not taken at 82
        have c82 : ¬ 4 ≤ r := fun zz9 => c82 ((nI_leI (a := 4) (b := r) (by omega) (by omega)).mpr zz9)
        refine r_pushl d_X10_digest_85 ?_
        refine r_lload_1 d_X10_digest_88 ?_
        refine r_lmul d_X10_digest_89 ?_
        refine r_aload_0 d_X10_digest_90 ?_
        refine r_get d_X10_digest_91 s10_sizes rfl rfl ?_
        refine r_iload_3 d_X10_digest_94 ?_
        refine r_iald d_X10_digest_95 rfl (pm_ixN (by omega) (by omega)) ?_
        rw [hz]
        refine r_if_ge d_X10_digest_96 (fun c96 => ?_) (fun c96 => ?_)
        · -- taken at 96
          exact absurd c96 (by decide)
        · -- not taken at 96
          refine r_push d_X10_digest_99 ?_
          refine r_goto d_X10_digest_100 ?_
          refine r_i2l d_X10_digest_109 ?_
          refine r_ladd d_X10_digest_110 ?_
          rw [← sp_d1_eq]
          refine r_lstore_1 d_X10_digest_111 (Nat.le_of_ble_eq_true rfl) (fun w hw => by cases hw <;> rfl) ?_
          refine r_push (v := nI 0) d_X10_digest_112 ?_
          refine r_istore_4 d_X10_digest_113 (Nat.le_of_ble_eq_true rfl) (fun w hw => by cases hw <;> rfl) ?_
          refine r_iload_4 d_X10_digest_115 ?_
          refine r_aload_0 d_X10_digest_117 ?_
          refine r_get d_X10_digest_118 s10_sizes rfl rfl ?_
          refine r_iload_3 d_X10_digest_121 ?_
          refine r_iald d_X10_digest_122 rfl (pm_ixN (by omega) (by omega)) ?_
          rw [hz]
          refine r_icmp_ge d_X10_digest_123 (fun c123 => ?_) (fun c123 => ?_)
          · -- taken at 123
            refine r_iinc_3 d_X10_digest_152 (Nat.le_of_ble_eq_true rfl) (fun w hw => by cases hw <;> rfl) ?_
            rw [nI_1]
            refine r_goto d_X10_digest_155 ?_
            exact ih9 _
          · -- not taken at 123
            exact absurd (show (-9 : Int32) ≤ nI 0 by decide) c123
    | some z =>
      obtain ⟨hz, hz64⟩ := m_rz_s hrz (by omega) hx
      rw [sp_dr_s hx] at ih9
      refine r_iload_3 d_X10_digest_80 ?_
      refine r_push (v := nI 4) d_X10_digest_81 ?_
      refine r_icmp_ge d_X10_digest_82 (fun c82 => ?_) (fun c82 => ?_)
      · -- taken at 82
        have c82 : 4 ≤ r := (nI_leI (a := 4) (b := r) (by omega) (by omega)).mp c82
        exfalso; omega
      · -- not taken at 82
        have c82 : ¬ 4 ≤ r := fun zz9 => c82 ((nI_leI (a := 4) (b := r) (by omega) (by omega)).mpr zz9)
        refine r_pushl d_X10_digest_85 ?_
        refine r_lload_1 d_X10_digest_88 ?_
        refine r_lmul d_X10_digest_89 ?_
        refine r_aload_0 d_X10_digest_90 ?_
        refine r_get d_X10_digest_91 s10_sizes rfl rfl ?_
        refine r_iload_3 d_X10_digest_94 ?_
        refine r_iald d_X10_digest_95 rfl (pm_ixN (by omega) (by omega)) ?_
        rw [hz]
        refine r_if_ge d_X10_digest_96 (fun c96 => ?_) (fun c96 => ?_)
        · -- taken at 96
          have c96 : 0 ≤ z := (nI_leI (a := 0) (b := z) (by omega) (by omega)).mp c96
          refine r_aload_0 d_X10_digest_103 ?_
          refine r_get d_X10_digest_104 s10_sizes rfl rfl ?_
          refine r_iload_3 d_X10_digest_107 ?_
          refine r_iald d_X10_digest_108 rfl (pm_ixN (by omega) (by omega)) ?_
          rw [hz]
          refine r_i2l d_X10_digest_109 ?_
          refine r_ladd d_X10_digest_110 ?_
          rw [← sp_d1_eq]
          refine r_lstore_1 d_X10_digest_111 (Nat.le_of_ble_eq_true rfl) (fun w hw => by cases hw <;> rfl) ?_
          refine r_push (v := nI 0) d_X10_digest_112 ?_
          refine r_istore_4 d_X10_digest_113 (Nat.le_of_ble_eq_true rfl) (fun w hw => by cases hw <;> rfl) ?_
          refine lr_X10_digest (by omega) hz hz64 (x := sp_d1 (sp_dr rz (fun r q => A 63 (64 * r + q)) r x) (nI z)) (fun o => ?_) z 0 (by omega)
          refine r_iinc_3 d_X10_digest_152 (Nat.le_of_ble_eq_true rfl) (fun w hw => by cases hw <;> rfl) ?_
          rw [nI_1]
          refine r_goto d_X10_digest_155 ?_
          exact ih9 _
        · -- not taken at 96
          have c96 : ¬ 0 ≤ z := fun zz9 => c96 ((nI_leI (a := 0) (b := z) (by omega) (by omega)).mpr zz9)
          exfalso; omega
set_option maxRecDepth 10000 in
set_option maxHeartbeats 4000000 in
theorem c_X10_digest {h : pm_H} {mi : Nat → Int32} {ml : Nat → Int64} {A : Nat → Nat → Int32} {B : Nat → Nat → Int64} {cn : Nat} {C : Nat → sp_Cs} (hCC : m_CC mi A cn C) {rz : Nat → Option Nat} (hrz : m_rz A rz) : pm_Cv e_X10_digest [.ref 44] (pmM h mi ml A B) (.long (sp_dr rz (fun r q => A 63 (64 * r + q)) 4 (sp_df (A 58) 48 (sp_dc C cn 17)))) (pmM h mi ml A B) := by
  refine pm_enter rfl (Nat.le_of_ble_eq_true rfl) ?_
  show pm_V e_X10_digest 0 [some (.ref 44), none, none, none, none] [] (pmM h mi ml A B) (0, 0) _
  refine r_pushl d_X10_digest_0 ?_
  refine r_lstore_1 d_X10_digest_3 (Nat.le_of_ble_eq_true rfl) (fun w hw => by cases hw <;> rfl) ?_
  refine r_push (v := nI 0) d_X10_digest_4 ?_
  refine r_istore_3 d_X10_digest_5 (Nat.le_of_ble_eq_true rfl) (fun w hw => by cases hw <;> rfl) ?_
  refine lp_X10_digest hCC (fun o => ?_) cn 0 (by omega) none
  refine r_push (v := nI 0) d_X10_digest_50 ?_
  refine r_istore_3 d_X10_digest_51 (Nat.le_of_ble_eq_true rfl) (fun w hw => by cases hw <;> rfl) ?_
  refine lq_X10_digest (x := sp_dc C cn 17) ?_ 48 0 (by omega)
  refine r_push (v := nI 0) d_X10_digest_78 ?_
  refine r_istore_3 d_X10_digest_79 (Nat.le_of_ble_eq_true rfl) (fun w hw => by cases hw <;> rfl) ?_
  refine ls_X10_digest hrz (x := sp_df (A 58) 48 (sp_dc C cn 17)) (fun o => ?_) 4 0 (by omega) _
  refine r_lload_1 d_X10_digest_158 ?_
  refine r_lreturn d_X10_digest_159 rfl ?_
  exact ⟨rfl, rfl⟩
