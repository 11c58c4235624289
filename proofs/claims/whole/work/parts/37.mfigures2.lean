set_option maxRecDepth 10000 in
set_option maxHeartbeats 4000000 in
theorem lp_act_0 {h : pm_H} {mi : Nat → Int32} {ml : Nat → Int64} {A : Nat → Nat → Int32} {B : Nat → Nat → Int64} {p q : Nat} {g : Nat → Nat} (hp : p < 8) (hg : ∀ j, j < 48 → A 58 j = nI (g j) ∧ 6 ≤ g j ∧ g j ≤ 9) {F : Option Value → pm_H → Prop} {b : Nat × Nat} (K : ∀ o, pm_V e_X10_act 135 [some (.ref 44), some (.int (nI p)), some (.int (nI 0)), some (.int (nI q)), some (.int (nI 6)), o] [] (pmM h mi ml (va_up A 59 (pm_fc (fun j => nI (sp_act 0 (fun z => g (6 * p + z)) j)) (A 59) 6)) B) b F) : ∀ (d i : Nat), i + d = 6 → ∀ o, pm_V e_X10_act 28 [some (.ref 44), some (.int (nI p)), some (.int (nI 0)), some (.int (nI q)), some (.int (nI i)), o] [] (pmM h mi ml (va_up A 59 (pm_fc (fun j => nI (sp_act 0 (fun z => g (6 * p + z)) j)) (A 59) i)) B) b F := by
  intro d
  induction d with
  | zero =>
    intro i hi o
    obtain rfl : i = 6 := by omega
    refine r_iload_4 d_X10_act_28 ?_
    refine r_push (v := nI 6) d_X10_act_30 ?_
    refine r_icmp_ge d_X10_act_32 (fun c32 => ?_) (fun c32 => absurd (by decide) c32)
    clear c32
    exact K _
  | succ d ih =>
    intro i hi o
    have hgi := hg (6 * p + i) (by omega)
    have key : ∀ z o9, z = sp_act 0 (fun z => g (6 * p + z)) i → pm_V e_X10_act 129 [some (.ref 44), some (.int (nI p)), some (.int (nI 0)), some (.int (nI q)), some (.int (nI i)), o9] [] (pmM h mi ml (va_up A 59 (upd (pm_fc (fun j => nI (sp_act 0 (fun z => g (6 * p + z)) j)) (A 59) i) i (nI z))) B) b F := by
      intro z o9 hz
      subst hz
      rw [show upd (pm_fc (fun j => nI (sp_act 0 (fun z => g (6 * p + z)) j)) (A 59) i) i (nI (sp_act 0 (fun z => g (6 * p + z)) i)) = pm_fc (fun j => nI (sp_act 0 (fun z => g (6 * p + z)) j)) (A 59) (i + 1) from pm_fc_s _ _ _]
      refine r_iinc_4 d_X10_act_129 (Nat.le_of_ble_eq_true rfl) (fun w hw => by cases hw <;> rfl) ?_
      rw [nI_1]
      refine r_goto d_X10_act_132 ?_
      exact ih (i + 1) (by omega) _
    refine r_iload_4 d_X10_act_28 ?_
    refine r_push (v := nI 6) d_X10_act_30 ?_
    refine r_icmp_ge d_X10_act_32 (fun c32 => ?_) (fun c32 => ?_)
    · -- taken at 32
      have c32 : 6 ≤ i := (nI_leI (a := 6) (b := i) (by omega) (by omega)).mp c32
      exfalso; omega
    · -- not taken at 32
      have c32 : ¬ 6 ≤ i := fun zz9 => c32 ((nI_leI (a := 6) (b := i) (by omega) (by omega)).mpr zz9)
      refine r_aload_0 d_X10_act_35 ?_
      refine r_get d_X10_act_36 s10_figures rfl rfl ?_
      refine r_push (v := nI 6) d_X10_act_39 ?_
      refine r_iload_1 d_X10_act_41 ?_
      refine r_imul d_X10_act_42 ?_
      rw [pk_mul]
      refine r_iload_2 d_X10_act_43 ?_
      refine r_push (v := nI 1) d_X10_act_44 ?_
      refine r_icmp_ne d_X10_act_45 (fun c45 => ?_) (fun c45 => absurd c45 (by decide))
      clear c45
      refine r_iload_2 d_X10_act_55 ?_
      refine r_push (v := nI 3) d_X10_act_56 ?_
      refine r_icmp_ne d_X10_act_57 (fun c57 => ?_) (fun c57 => absurd c57 (by decide))
      clear c57
      refine r_iload_4 d_X10_act_68 ?_
      refine r_iadd d_X10_act_70 ?_
      rw [nI_add]
      refine r_iald d_X10_act_71 rfl (pm_ixN (by omega) (by omega)) ?_
      rw [show va_up A 59 (pm_fc (fun j => nI (sp_act 0 (fun z => g (6 * p + z)) j)) (A 59) i) 58 (6 * p + i) = nI (g (6 * p + i)) from hgi.1]
      refine r_istore_5 d_X10_act_72 (Nat.le_of_ble_eq_true rfl) (fun w hw => by cases hw <;> rfl) ?_
      refine r_aload_0 d_X10_act_74 ?_
      refine r_get d_X10_act_75 s10_six rfl rfl ?_
      refine r_iload_4 d_X10_act_78 ?_
      refine r_iload_2 d_X10_act_80 ?_
      refine r_if_ne d_X10_act_81 (fun c81 => absurd (by decide) c81) (fun c81 => ?_)
      clear c81
      refine r_iload_5 d_X10_act_84 ?_
      refine r_push (v := nI 6) d_X10_act_86 ?_
      refine r_icmp_ne d_X10_act_88 (fun c88 => ?_) (fun c88 => ?_)
      · -- taken at 88
        have c88 : ¬ (g (6 * p + i)) = 6 := fun zz9 => c88 ((nI_eq (a := (g (6 * p + i))) (b := 6) (by omega) (by omega)).mpr zz9)
        refine r_iload_5 d_X10_act_96 ?_
        refine r_push (v := nI 9) d_X10_act_98 ?_
        refine r_icmp_ne d_X10_act_100 (fun c100 => ?_) (fun c100 => ?_)
        · -- taken at 100
          have c100 : ¬ (g (6 * p + i)) = 9 := fun zz9 => c100 ((nI_eq (a := (g (6 * p + i))) (b := 9) (by omega) (by omega)).mpr zz9)
          refine r_iload_5 d_X10_act_108 ?_
          refine r_goto d_X10_act_110 ?_
          refine r_iast d_X10_act_128 rfl (pm_ixN (by omega) (by omega)) ?_
          rw [pmM_six, m_aua]
          exact key _ _ (by first | rfl | (show _ = sp_chg (g (6 * p + i)); unfold sp_chg; split <;> (try split) <;> omega))
        · -- not taken at 100
          have c100 : (g (6 * p + i)) = 9 := (nI_eq (a := (g (6 * p + i))) (b := 9) (by omega) (by omega)).mp c100
          refine r_push (v := nI 8) d_X10_act_103 ?_
          refine r_goto d_X10_act_105 ?_
          refine r_iast d_X10_act_128 rfl (pm_ixN (by omega) (by omega)) ?_
          rw [pmM_six, m_aua]
          exact key _ _ (by first | rfl | (show _ = sp_chg (g (6 * p + i)); unfold sp_chg; split <;> (try split) <;> omega))
      · -- not taken at 88
        have c88 : (g (6 * p + i)) = 6 := (nI_eq (a := (g (6 * p + i))) (b := 6) (by omega) (by omega)).mp c88
        refine r_push (v := nI 7) d_X10_act_91 ?_
        refine r_goto d_X10_act_93 ?_
        refine r_iast d_X10_act_128 rfl (pm_ixN (by omega) (by omega)) ?_
        rw [pmM_six, m_aua]
        exact key _ _ (by first | rfl | (show _ = sp_chg (g (6 * p + i)); unfold sp_chg; split <;> (try split) <;> omega))
set_option maxRecDepth 10000 in
set_option maxHeartbeats 4000000 in
theorem lp_act_1 {h : pm_H} {mi : Nat → Int32} {ml : Nat → Int64} {A : Nat → Nat → Int32} {B : Nat → Nat → Int64} {p q : Nat} {g : Nat → Nat} (hp : p < 8) (hg : ∀ j, j < 48 → A 58 j = nI (g j) ∧ 6 ≤ g j ∧ g j ≤ 9) {F : Option Value → pm_H → Prop} {b : Nat × Nat} (K : ∀ o, pm_V e_X10_act 135 [some (.ref 44), some (.int (nI p)), some (.int (nI 1)), some (.int (nI q)), some (.int (nI 6)), o] [] (pmM h mi ml (va_up A 59 (pm_fc (fun j => nI (sp_act 1 (fun z => g (6 * p + z)) j)) (A 59) 6)) B) b F) : ∀ (d i : Nat), i + d = 6 → ∀ o, pm_V e_X10_act 28 [some (.ref 44), some (.int (nI p)), some (.int (nI 1)), some (.int (nI q)), some (.int (nI i)), o] [] (pmM h mi ml (va_up A 59 (pm_fc (fun j => nI (sp_act 1 (fun z => g (6 * p + z)) j)) (A 59) i)) B) b F := by
  intro d
  induction d with
  | zero =>
    intro i hi o
    obtain rfl : i = 6 := by omega
    refine r_iload_4 d_X10_act_28 ?_
    refine r_push (v := nI 6) d_X10_act_30 ?_
    refine r_icmp_ge d_X10_act_32 (fun c32 => ?_) (fun c32 => absurd (by decide) c32)
    clear c32
    exact K _
  | succ d ih =>
    intro i hi o
    have hgi := hg (6 * p + (5 - i)) (by omega)
    have key : ∀ z o9, z = sp_act 1 (fun z => g (6 * p + z)) i → pm_V e_X10_act 129 [some (.ref 44), some (.int (nI p)), some (.int (nI 1)), some (.int (nI q)), some (.int (nI i)), o9] [] (pmM h mi ml (va_up A 59 (upd (pm_fc (fun j => nI (sp_act 1 (fun z => g (6 * p + z)) j)) (A 59) i) i (nI z))) B) b F := by
      intro z o9 hz
      subst hz
      rw [show upd (pm_fc (fun j => nI (sp_act 1 (fun z => g (6 * p + z)) j)) (A 59) i) i (nI (sp_act 1 (fun z => g (6 * p + z)) i)) = pm_fc (fun j => nI (sp_act 1 (fun z => g (6 * p + z)) j)) (A 59) (i + 1) from pm_fc_s _ _ _]
      refine r_iinc_4 d_X10_act_129 (Nat.le_of_ble_eq_true rfl) (fun w hw => by cases hw <;> rfl) ?_
      rw [nI_1]
      refine r_goto d_X10_act_132 ?_
      exact ih (i + 1) (by omega) _
    refine r_iload_4 d_X10_act_28 ?_
    refine r_push (v := nI 6) d_X10_act_30 ?_
    refine r_icmp_ge d_X10_act_32 (fun c32 => ?_) (fun c32 => ?_)
    · -- taken at 32
      have c32 : 6 ≤ i := (nI_leI (a := 6) (b := i) (by omega) (by omega)).mp c32
      exfalso; omega
    · -- not taken at 32
      have c32 : ¬ 6 ≤ i := fun zz9 => c32 ((nI_leI (a := 6) (b := i) (by omega) (by omega)).mpr zz9)
      refine r_aload_0 d_X10_act_35 ?_
      refine r_get d_X10_act_36 s10_figures rfl rfl ?_
      refine r_push (v := nI 6) d_X10_act_39 ?_
      refine r_iload_1 d_X10_act_41 ?_
      refine r_imul d_X10_act_42 ?_
      rw [pk_mul]
      refine r_iload_2 d_X10_act_43 ?_
      refine r_push (v := nI 1) d_X10_act_44 ?_
      refine r_icmp_ne d_X10_act_45 (fun c45 => absurd (by decide) c45) (fun c45 => ?_)
      clear c45
      refine r_push (v := nI 5) d_X10_act_48 ?_
      refine r_iload_4 d_X10_act_49 ?_
      refine r_isub d_X10_act_51 ?_
      rw [pk_sub (a := 5) (b := i) (by omega)]
      refine r_goto d_X10_act_52 ?_
      refine r_iadd d_X10_act_70 ?_
      rw [nI_add]
      refine r_iald d_X10_act_71 rfl (pm_ixN (by omega) (by omega)) ?_
      rw [show va_up A 59 (pm_fc (fun j => nI (sp_act 1 (fun z => g (6 * p + z)) j)) (A 59) i) 58 (6 * p + (5 - i)) = nI (g (6 * p + (5 - i))) from hgi.1]
      refine r_istore_5 d_X10_act_72 (Nat.le_of_ble_eq_true rfl) (fun w hw => by cases hw <;> rfl) ?_
      refine r_aload_0 d_X10_act_74 ?_
      refine r_get d_X10_act_75 s10_six rfl rfl ?_
      refine r_iload_4 d_X10_act_78 ?_
      refine r_iload_2 d_X10_act_80 ?_
      refine r_if_ne d_X10_act_81 (fun c81 => ?_) (fun c81 => absurd c81 (by decide))
      clear c81
      refine r_iload_2 d_X10_act_113 ?_
      refine r_push (v := nI 2) d_X10_act_114 ?_
      refine r_icmp_ne d_X10_act_115 (fun c115 => ?_) (fun c115 => absurd c115 (by decide))
      clear c115
      refine r_iload_5 d_X10_act_126 ?_
      refine r_iast d_X10_act_128 rfl (pm_ixN (by omega) (by omega)) ?_
      rw [pmM_six, m_aua]
      exact key _ _ (by first | rfl | (show _ = sp_chg (g (6 * p + (5 - i))); unfold sp_chg; split <;> (try split) <;> omega))
set_option maxRecDepth 10000 in
set_option maxHeartbeats 4000000 in
theorem lp_act_2 {h : pm_H} {mi : Nat → Int32} {ml : Nat → Int64} {A : Nat → Nat → Int32} {B : Nat → Nat → Int64} {p q : Nat} {g : Nat → Nat} (hp : p < 8) (hg : ∀ j, j < 48 → A 58 j = nI (g j) ∧ 6 ≤ g j ∧ g j ≤ 9) {F : Option Value → pm_H → Prop} {b : Nat × Nat} (K : ∀ o, pm_V e_X10_act 135 [some (.ref 44), some (.int (nI p)), some (.int (nI 2)), some (.int (nI q)), some (.int (nI 6)), o] [] (pmM h mi ml (va_up A 59 (pm_fc (fun j => nI (sp_act 2 (fun z => g (6 * p + z)) j)) (A 59) 6)) B) b F) : ∀ (d i : Nat), i + d = 6 → ∀ o, pm_V e_X10_act 28 [some (.ref 44), some (.int (nI p)), some (.int (nI 2)), some (.int (nI q)), some (.int (nI i)), o] [] (pmM h mi ml (va_up A 59 (pm_fc (fun j => nI (sp_act 2 (fun z => g (6 * p + z)) j)) (A 59) i)) B) b F := by
  intro d
  induction d with
  | zero =>
    intro i hi o
    obtain rfl : i = 6 := by omega
    refine r_iload_4 d_X10_act_28 ?_
    refine r_push (v := nI 6) d_X10_act_30 ?_
    refine r_icmp_ge d_X10_act_32 (fun c32 => ?_) (fun c32 => absurd (by decide) c32)
    clear c32
    exact K _
  | succ d ih =>
    intro i hi o
    have hgi := hg (6 * p + i) (by omega)
    have key : ∀ z o9, z = sp_act 2 (fun z => g (6 * p + z)) i → pm_V e_X10_act 129 [some (.ref 44), some (.int (nI p)), some (.int (nI 2)), some (.int (nI q)), some (.int (nI i)), o9] [] (pmM h mi ml (va_up A 59 (upd (pm_fc (fun j => nI (sp_act 2 (fun z => g (6 * p + z)) j)) (A 59) i) i (nI z))) B) b F := by
      intro z o9 hz
      subst hz
      rw [show upd (pm_fc (fun j => nI (sp_act 2 (fun z => g (6 * p + z)) j)) (A 59) i) i (nI (sp_act 2 (fun z => g (6 * p + z)) i)) = pm_fc (fun j => nI (sp_act 2 (fun z => g (6 * p + z)) j)) (A 59) (i + 1) from pm_fc_s _ _ _]
      refine r_iinc_4 d_X10_act_129 (Nat.le_of_ble_eq_true rfl) (fun w hw => by cases hw <;> rfl) ?_
      rw [nI_1]
      refine r_goto d_X10_act_132 ?_
      exact ih (i + 1) (by omega) _
    refine r_iload_4 d_X10_act_28 ?_
    refine r_push (v := nI 6) d_X10_act_30 ?_
    refine r_icmp_ge d_X10_act_32 (fun c32 => ?_) (fun c32 => ?_)
    · -- taken at 32
      have c32 : 6 ≤ i := (nI_leI (a := 6) (b := i) (by omega) (by omega)).mp c32
      exfalso; omega
    · -- not taken at 32
      have c32 : ¬ 6 ≤ i := fun zz9 => c32 ((nI_leI (a := 6) (b := i) (by omega) (by omega)).mpr zz9)
      refine r_aload_0 d_X10_act_35 ?_
      refine r_get d_X10_act_36 s10_figures rfl rfl ?_
      refine r_push (v := nI 6) d_X10_act_39 ?_
      refine r_iload_1 d_X10_act_41 ?_
      refine r_imul d_X10_act_42 ?_
      rw [pk_mul]
      refine r_iload_2 d_X10_act_43 ?_
      refine r_push (v := nI 1) d_X10_act_44 ?_
      refine r_icmp_ne d_X10_act_45 (fun c45 => ?_) (fun c45 => absurd c45 (by decide))
      clear c45
      refine r_iload_2 d_X10_act_55 ?_
      refine r_push (v := nI 3) d_X10_act_56 ?_
      refine r_icmp_ne d_X10_act_57 (fun c57 => ?_) (fun c57 => absurd c57 (by decide))
      clear c57
      refine r_iload_4 d_X10_act_68 ?_
      refine r_iadd d_X10_act_70 ?_
      rw [nI_add]
      refine r_iald d_X10_act_71 rfl (pm_ixN (by omega) (by omega)) ?_
      rw [show va_up A 59 (pm_fc (fun j => nI (sp_act 2 (fun z => g (6 * p + z)) j)) (A 59) i) 58 (6 * p + i) = nI (g (6 * p + i)) from hgi.1]
      refine r_istore_5 d_X10_act_72 (Nat.le_of_ble_eq_true rfl) (fun w hw => by cases hw <;> rfl) ?_
      refine r_aload_0 d_X10_act_74 ?_
      refine r_get d_X10_act_75 s10_six rfl rfl ?_
      refine r_iload_4 d_X10_act_78 ?_
      refine r_iload_2 d_X10_act_80 ?_
      refine r_if_ne d_X10_act_81 (fun c81 => ?_) (fun c81 => absurd c81 (by decide))
      clear c81
      refine r_iload_2 d_X10_act_113 ?_
      refine r_push (v := nI 2) d_X10_act_114 ?_
      refine r_icmp_ne d_X10_act_115 (fun c115 => absurd (by decide) c115) (fun c115 => ?_)
      clear c115
      refine r_push (v := nI 15) d_X10_act_118 ?_
      refine r_iload_5 d_X10_act_120 ?_
      refine r_isub d_X10_act_122 ?_
      rw [pk_sub (a := 15) (b := (g (6 * p + i))) (by omega)]
      refine r_goto d_X10_act_123 ?_
      refine r_iast d_X10_act_128 rfl (pm_ixN (by omega) (by omega)) ?_
      rw [pmM_six, m_aua]
      exact key _ _ (by first | rfl | (show _ = sp_chg (g (6 * p + i)); unfold sp_chg; split <;> (try split) <;> omega))
set_option maxRecDepth 10000 in
set_option maxHeartbeats 4000000 in
theorem lp_act_3 {h : pm_H} {mi : Nat → Int32} {ml : Nat → Int64} {A : Nat → Nat → Int32} {B : Nat → Nat → Int64} {p q : Nat} {g : Nat → Nat} (hp : p < 8) (hg : ∀ j, j < 48 → A 58 j = nI (g j) ∧ 6 ≤ g j ∧ g j ≤ 9) {F : Option Value → pm_H → Prop} {b : Nat × Nat} (K : ∀ o, pm_V e_X10_act 135 [some (.ref 44), some (.int (nI p)), some (.int (nI 3)), some (.int (nI q)), some (.int (nI 6)), o] [] (pmM h mi ml (va_up A 59 (pm_fc (fun j => nI (sp_act 3 (fun z => g (6 * p + z)) j)) (A 59) 6)) B) b F) : ∀ (d i : Nat), i + d = 6 → ∀ o, pm_V e_X10_act 28 [some (.ref 44), some (.int (nI p)), some (.int (nI 3)), some (.int (nI q)), some (.int (nI i)), o] [] (pmM h mi ml (va_up A 59 (pm_fc (fun j => nI (sp_act 3 (fun z => g (6 * p + z)) j)) (A 59) i)) B) b F := by
  intro d
  induction d with
  | zero =>
    intro i hi o
    obtain rfl : i = 6 := by omega
    refine r_iload_4 d_X10_act_28 ?_
    refine r_push (v := nI 6) d_X10_act_30 ?_
    refine r_icmp_ge d_X10_act_32 (fun c32 => ?_) (fun c32 => absurd (by decide) c32)
    clear c32
    exact K _
  | succ d ih =>
    intro i hi o
    have hne : (if i < 3 then i + 1 else i - 1) < 6 := by split <;> omega
    have hgi := hg (6 * p + (if i < 3 then i + 1 else i - 1)) (by omega)
    have key : ∀ z o9, z = sp_act 3 (fun z => g (6 * p + z)) i → pm_V e_X10_act 129 [some (.ref 44), some (.int (nI p)), some (.int (nI 3)), some (.int (nI q)), some (.int (nI i)), o9] [] (pmM h mi ml (va_up A 59 (upd (pm_fc (fun j => nI (sp_act 3 (fun z => g (6 * p + z)) j)) (A 59) i) i (nI z))) B) b F := by
      intro z o9 hz
      subst hz
      rw [show upd (pm_fc (fun j => nI (sp_act 3 (fun z => g (6 * p + z)) j)) (A 59) i) i (nI (sp_act 3 (fun z => g (6 * p + z)) i)) = pm_fc (fun j => nI (sp_act 3 (fun z => g (6 * p + z)) j)) (A 59) (i + 1) from pm_fc_s _ _ _]
      refine r_iinc_4 d_X10_act_129 (Nat.le_of_ble_eq_true rfl) (fun w hw => by cases hw <;> rfl) ?_
      rw [nI_1]
      refine r_goto d_X10_act_132 ?_
      exact ih (i + 1) (by omega) _
    refine r_iload_4 d_X10_act_28 ?_
    refine r_push (v := nI 6) d_X10_act_30 ?_
    refine r_icmp_ge d_X10_act_32 (fun c32 => ?_) (fun c32 => ?_)
    · -- taken at 32
      have c32 : 6 ≤ i := (nI_leI (a := 6) (b := i) (by omega) (by omega)).mp c32
      exfalso; omega
    · -- not taken at 32
      have c32 : ¬ 6 ≤ i := fun zz9 => c32 ((nI_leI (a := 6) (b := i) (by omega) (by omega)).mpr zz9)
      refine r_aload_0 d_X10_act_35 ?_
      refine r_get d_X10_act_36 s10_figures rfl rfl ?_
      refine r_push (v := nI 6) d_X10_act_39 ?_
      refine r_iload_1 d_X10_act_41 ?_
      refine r_imul d_X10_act_42 ?_
      rw [pk_mul]
      refine r_iload_2 d_X10_act_43 ?_
      refine r_push (v := nI 1) d_X10_act_44 ?_
      refine r_icmp_ne d_X10_act_45 (fun c45 => ?_) (fun c45 => absurd c45 (by decide))
      clear c45
      refine r_iload_2 d_X10_act_55 ?_
      refine r_push (v := nI 3) d_X10_act_56 ?_
      refine r_icmp_ne d_X10_act_57 (fun c57 => absurd (by decide) c57) (fun c57 => ?_)
      clear c57
      refine r_iload_4 d_X10_act_60 ?_
      refine r_S1 d_X10_act_62 (c_X10_nestedAt (by omega)) ⟨rfl, rfl⟩ (Nat.le_of_ble_eq_true rfl) ?_
      refine r_goto d_X10_act_65 ?_
      refine r_iadd d_X10_act_70 ?_
      rw [nI_add]
      refine r_iald d_X10_act_71 rfl (pm_ixN (by omega) (by omega)) ?_
      rw [show va_up A 59 (pm_fc (fun j => nI (sp_act 3 (fun z => g (6 * p + z)) j)) (A 59) i) 58 (6 * p + (if i < 3 then i + 1 else i - 1)) = nI (g (6 * p + (if i < 3 then i + 1 else i - 1))) from hgi.1]
      refine r_istore_5 d_X10_act_72 (Nat.le_of_ble_eq_true rfl) (fun w hw => by cases hw <;> rfl) ?_
      refine r_aload_0 d_X10_act_74 ?_
      refine r_get d_X10_act_75 s10_six rfl rfl ?_
      refine r_iload_4 d_X10_act_78 ?_
      refine r_iload_2 d_X10_act_80 ?_
      refine r_if_ne d_X10_act_81 (fun c81 => ?_) (fun c81 => absurd c81 (by decide))
      clear c81
      refine r_iload_2 d_X10_act_113 ?_
      refine r_push (v := nI 2) d_X10_act_114 ?_
      refine r_icmp_ne d_X10_act_115 (fun c115 => ?_) (fun c115 => absurd c115 (by decide))
      clear c115
      refine r_iload_5 d_X10_act_126 ?_
      refine r_iast d_X10_act_128 rfl (pm_ixN (by omega) (by omega)) ?_
      rw [pmM_six, m_aua]
      exact key _ _ (by first | rfl | (show _ = sp_chg (g (6 * p + (if i < 3 then i + 1 else i - 1))); unfold sp_chg; split <;> (try split) <;> omega))
set_option maxRecDepth 10000 in
set_option maxHeartbeats 4000000 in
theorem lp_act2 {h : pm_H} {mi : Nat → Int32} {ml : Nat → Int64} {A : Nat → Nat → Int32} {B : Nat → Nat → Int64} {p q t : Nat} {o : Option Value} (hq : q < 8) {F : Option Value → pm_H → Prop} {b : Nat × Nat} (K : pm_V e_X10_act 170 [some (.ref 44), some (.int (nI p)), some (.int (nI t)), some (.int (nI q)), some (.int (nI 6)), o] [] (pmM h mi ml (va_up A 58 (m_fg (A 58) q (A 59) 6)) B) b F) : ∀ (d i : Nat), i + d = 6 → pm_V e_X10_act 138 [some (.ref 44), some (.int (nI p)), some (.int (nI t)), some (.int (nI q)), some (.int (nI i)), o] [] (pmM h mi ml (va_up A 58 (m_fg (A 58) q (A 59) i)) B) b F := by
  intro d
  induction d with
  | zero =>
    intro i hi
    obtain rfl : i = 6 := by omega
    refine r_iload_4 d_X10_act_138 ?_
    refine r_push (v := nI 6) d_X10_act_140 ?_
    refine r_icmp_ge d_X10_act_142 (fun c142 => ?_) (fun c142 => absurd (by decide) c142)
    clear c142
    exact K
  | succ d ih =>
    intro i hi
    refine r_iload_4 d_X10_act_138 ?_
    refine r_push (v := nI 6) d_X10_act_140 ?_
    refine r_icmp_ge d_X10_act_142 (fun c142 => ?_) (fun c142 => ?_)
    · -- taken at 142
      have c142 : 6 ≤ i := (nI_leI (a := 6) (b := i) (by omega) (by omega)).mp c142
      exfalso; omega
    · -- not taken at 142
      have c142 : ¬ 6 ≤ i := fun zz9 => c142 ((nI_leI (a := 6) (b := i) (by omega) (by omega)).mpr zz9)
      refine r_aload_0 d_X10_act_145 ?_
      refine r_get d_X10_act_146 s10_figures rfl rfl ?_
      refine r_push (v := nI 6) d_X10_act_149 ?_
      refine r_iload_3 d_X10_act_151 ?_
      refine r_imul d_X10_act_152 ?_
      rw [pk_mul]
      refine r_iload_4 d_X10_act_153 ?_
      refine r_iadd d_X10_act_155 ?_
      rw [nI_add]
      refine r_aload_0 d_X10_act_156 ?_
      refine r_get d_X10_act_157 s10_six rfl rfl ?_
      refine r_iload_4 d_X10_act_160 ?_
      refine r_iald d_X10_act_162 rfl (pm_ixN (by omega) (by omega)) ?_
      refine r_iast d_X10_act_163 rfl (pm_ixN (by omega) (by omega)) ?_
      rw [pmM_figures, m_aua, show upd (va_up A 58 (m_fg (A 58) q (A 59) i) 58) (6 * q + i) (va_up A 58 (m_fg (A 58) q (A 59) i) 59 i) = m_fg (A 58) q (A 59) (i + 1) from m_fg_s _ _ _ _]
      refine r_iinc_4 d_X10_act_164 (Nat.le_of_ble_eq_true rfl) (fun w hw => by cases hw <;> rfl) ?_
      rw [nI_1]
      refine r_goto d_X10_act_167 ?_
      exact ih (i + 1) (by omega)
set_option maxRecDepth 10000 in
set_option maxHeartbeats 4000000 in
theorem c_X10_act_bad1 {h : pm_H} {mi : Nat → Int32} {ml : Nat → Int64} {A : Nat → Nat → Int32} {B : Nat → Nat → Int64} {f t u : Int32} (hf : sp_in f 0 7 = false) : pm_Cv e_X10_act [.ref 44, .int f, .int t, .int u] (pmM h mi ml A B) (.int (-1)) (pmM h mi ml A B) := by
  refine pm_enter rfl (Nat.le_of_ble_eq_true rfl) ?_
  show pm_V e_X10_act 0 [some (.ref 44), some (.int f), some (.int t), some (.int u), none, none] [] (pmM h mi ml A B) (0, 0) _
  refine r_iload_1 d_X10_act_0 ?_
  refine r_S1 d_X10_act_1 c_X10_isFigure ⟨rfl, rfl⟩ (Nat.le_of_ble_eq_true rfl) ?_
  rw [hf]
  show pm_V _ _ _ (.int (nI 0) :: _) _ _ _
  refine r_if_eq d_X10_act_4 (fun c4 => ?_) (fun c4 => absurd (by decide) c4)
  clear c4
  refine r_push d_X10_act_23 ?_
  refine r_ireturn d_X10_act_24 ⟨_, rfl, rfl⟩ ?_
  exact ⟨rfl, rfl⟩
set_option maxRecDepth 10000 in
set_option maxHeartbeats 4000000 in
theorem c_X10_act_bad2 {h : pm_H} {mi : Nat → Int32} {ml : Nat → Int64} {A : Nat → Nat → Int32} {B : Nat → Nat → Int64} {f t u : Int32} (hf : sp_in f 0 7 = true) (hv : sp_in u 0 7 = false) : pm_Cv e_X10_act [.ref 44, .int f, .int t, .int u] (pmM h mi ml A B) (.int (-1)) (pmM h mi ml A B) := by
  refine pm_enter rfl (Nat.le_of_ble_eq_true rfl) ?_
  show pm_V e_X10_act 0 [some (.ref 44), some (.int f), some (.int t), some (.int u), none, none] [] (pmM h mi ml A B) (0, 0) _
  refine r_iload_1 d_X10_act_0 ?_
  refine r_S1 d_X10_act_1 c_X10_isFigure ⟨rfl, rfl⟩ (Nat.le_of_ble_eq_true rfl) ?_
  rw [hf]
  show pm_V _ _ _ (.int (nI 1) :: _) _ _ _
  refine r_if_eq d_X10_act_4 (fun c4 => absurd c4 (by decide)) (fun c4 => ?_)
  clear c4
  refine r_iload_3 d_X10_act_7 ?_
  refine r_S1 d_X10_act_8 c_X10_isFigure ⟨rfl, rfl⟩ (Nat.le_of_ble_eq_true rfl) ?_
  rw [hv]
  show pm_V _ _ _ (.int (nI 0) :: _) _ _ _
  refine r_if_eq d_X10_act_11 (fun c11 => ?_) (fun c11 => absurd (by decide) c11)
  clear c11
  refine r_push d_X10_act_23 ?_
  refine r_ireturn d_X10_act_24 ⟨_, rfl, rfl⟩ ?_
  exact ⟨rfl, rfl⟩
set_option maxRecDepth 10000 in
set_option maxHeartbeats 4000000 in
theorem c_X10_act_bad3 {h : pm_H} {mi : Nat → Int32} {ml : Nat → Int64} {A : Nat → Nat → Int32} {B : Nat → Nat → Int64} {f t u : Int32} (hf : sp_in f 0 7 = true) (hv : sp_in u 0 7 = true) (ht : sp_in t 0 3 = false) : pm_Cv e_X10_act [.ref 44, .int f, .int t, .int u] (pmM h mi ml A B) (.int (-1)) (pmM h mi ml A B) := by
  refine pm_enter rfl (Nat.le_of_ble_eq_true rfl) ?_
  show pm_V e_X10_act 0 [some (.ref 44), some (.int f), some (.int t), some (.int u), none, none] [] (pmM h mi ml A B) (0, 0) _
  refine r_iload_1 d_X10_act_0 ?_
  refine r_S1 d_X10_act_1 c_X10_isFigure ⟨rfl, rfl⟩ (Nat.le_of_ble_eq_true rfl) ?_
  rw [hf]
  show pm_V _ _ _ (.int (nI 1) :: _) _ _ _
  refine r_if_eq d_X10_act_4 (fun c4 => absurd c4 (by decide)) (fun c4 => ?_)
  clear c4
  refine r_iload_3 d_X10_act_7 ?_
  refine r_S1 d_X10_act_8 c_X10_isFigure ⟨rfl, rfl⟩ (Nat.le_of_ble_eq_true rfl) ?_
  rw [hv]
  show pm_V _ _ _ (.int (nI 1) :: _) _ _ _
  refine r_if_eq d_X10_act_11 (fun c11 => absurd c11 (by decide)) (fun c11 => ?_)
  clear c11
  refine r_iload_2 d_X10_act_14 ?_
  refine r_push d_X10_act_15 ?_
  refine r_push d_X10_act_16 ?_
  refine r_S3 d_X10_act_17 c_X10_in ⟨rfl, rfl⟩ (Nat.le_of_ble_eq_true rfl) ?_
  rw [ht]
  show pm_V _ _ _ (.int (nI 0) :: _) _ _ _
  refine r_if_ne d_X10_act_20 (fun c20 => absurd (by decide) c20) (fun c20 => ?_)
  clear c20
  refine r_push d_X10_act_23 ?_
  refine r_ireturn d_X10_act_24 ⟨_, rfl, rfl⟩ ?_
  exact ⟨rfl, rfl⟩
theorem m_fg_cong {a : Nat → Int32} {p : Nat} {s s' : Nat → Int32} {i : Nat} (h : ∀ j, j < i → s j = s' j) : m_fg a p s i = m_fg a p s' i := by
  funext q
  unfold m_fg
  by_cases e : 6 * p ≤ q ∧ q < 6 * p + i
  · rw [if_pos e, if_pos e]; exact h _ (by omega)
  · rw [if_neg e, if_neg e]
theorem m_fg_in {a : Nat → Int32} {p : Nat} {s : Nat → Int32} {j : Nat} (h : j < 6) : m_fg a p s 6 (6 * p + j) = s j := by
  unfold m_fg; rw [if_pos (by omega), Nat.add_sub_cancel_left]
theorem m_fg_ne {a : Nat → Int32} {p : Nat} {s : Nat → Int32} {f j : Nat} (h : j < 6) (hf : f ≠ p) : m_fg a p s 6 (6 * f + j) = a (6 * f + j) := by
  unfold m_fg; rw [if_neg (by omega)]
theorem sp_act_in {t : Nat} {g : Nat → Nat} (hg : ∀ j, j < 6 → 6 ≤ g j ∧ g j ≤ 9) {i : Nat} (hi : i < 6) : 6 ≤ sp_act t g i ∧ sp_act t g i ≤ 9 := by
  have h1 := hg i hi
  have h2 := hg (5 - i) (by omega)
  have h3 := hg (if i < 3 then i + 1 else i - 1) (by split <;> omega)
  unfold sp_act sp_chg
  split
  · split <;> (try split) <;> omega
  · split
    · omega
    · split
      · omega
      · exact h3
def m_g2 (g : Nat → Nat) (p : Nat) (s : Nat → Nat) : Nat → Nat := fun j => if 6 * p ≤ j ∧ j < 6 * p + 6 then s (j - 6 * p) else g j
theorem m_g2_ok {a : Nat → Int32} {g : Nat → Nat} {p : Nat} {s : Nat → Nat} (hg : ∀ j, j < 48 → a j = nI (g j) ∧ 6 ≤ g j ∧ g j ≤ 9) (hs : ∀ j, j < 6 → 6 ≤ s j ∧ s j ≤ 9) : ∀ j, j < 48 → m_fg a p (fun i => nI (s i)) 6 j = nI (m_g2 g p s j) ∧ 6 ≤ m_g2 g p s j ∧ m_g2 g p s j ≤ 9 := by
  intro j hj
  unfold m_fg m_g2
  by_cases e : 6 * p ≤ j ∧ j < 6 * p + 6
  · rw [if_pos e, if_pos e]; exact ⟨rfl, hs _ (by omega)⟩
  · rw [if_neg e, if_neg e]; exact hg j hj
set_option maxRecDepth 10000 in
set_option maxHeartbeats 4000000 in
theorem c_X10_act {h : pm_H} {mi : Nat → Int32} {ml : Nat → Int64} {A : Nat → Nat → Int32} {B : Nat → Nat → Int64} {p q t : Nat} {g : Nat → Nat} (hp : p < 8) (hq : q < 8) (ht : t < 4) (hg : ∀ j, j < 48 → A 58 j = nI (g j) ∧ 6 ≤ g j ∧ g j ≤ 9) : pm_Cv e_X10_act [.ref 44, .int (nI p), .int (nI t), .int (nI q)] (pmM h mi ml A B) (.int (nI (sp_b (sp_act t (fun z => g (6 * p + z))) 6))) (pmM h mi ml (va_up (va_up A 59 (pm_fc (fun j => nI (sp_act t (fun z => g (6 * p + z)) j)) (A 59) 6)) 58 (m_fg (A 58) q (fun j => nI (sp_act t (fun z => g (6 * p + z)) j)) 6)) B) := by
  have hgp : ∀ j, j < 6 → 6 ≤ g (6 * p + j) ∧ g (6 * p + j) ≤ 9 := fun j hj => (hg (6 * p + j) (by omega)).2
  have ef : m_fg (A 58) q (pm_fc (fun j => nI (sp_act t (fun z => g (6 * p + z)) j)) (A 59) 6) 6 = m_fg (A 58) q (fun j => nI (sp_act t (fun z => g (6 * p + z)) j)) 6 := m_fg_cong (fun j hj => pm_fc_in hj)
  have eA : va_up A 59 (pm_fc (fun j => nI (sp_act t (fun z => g (6 * p + z)) j)) (A 59) 0) = A := by rw [pm_fc_0, m_aus]
  have eA2 : va_up (va_up A 59 (pm_fc (fun j => nI (sp_act t (fun z => g (6 * p + z)) j)) (A 59) 6)) 58 (m_fg (A 58) q (pm_fc (fun j => nI (sp_act t (fun z => g (6 * p + z)) j)) (A 59) 6) 0) = va_up A 59 (pm_fc (fun j => nI (sp_act t (fun z => g (6 * p + z)) j)) (A 59) 6) := by rw [m_fg_0]; exact m_aus _ 58
  have tail : ∀ o, pm_V e_X10_act 135 [some (.ref 44), some (.int (nI p)), some (.int (nI t)), some (.int (nI q)), some (.int (nI 6)), o] [] (pmM h mi ml (va_up A 59 (pm_fc (fun j => nI (sp_act t (fun z => g (6 * p + z)) j)) (A 59) 6)) B) (0, 0) (fun v h1 => v = some (.int (nI (sp_b (sp_act t (fun z => g (6 * p + z))) 6))) ∧ h1 = (pmM h mi ml (va_up (va_up A 59 (pm_fc (fun j => nI (sp_act t (fun z => g (6 * p + z)) j)) (A 59) 6)) 58 (m_fg (A 58) q (fun j => nI (sp_act t (fun z => g (6 * p + z)) j)) 6)) B)) := by
    intro o
    refine r_push (v := nI 0) d_X10_act_135 ?_
    refine r_istore_4 d_X10_act_136 (Nat.le_of_ble_eq_true rfl) (fun w hw => by cases hw <;> rfl) ?_
    have K := lp_act2 (h := h) (mi := mi) (ml := ml) (A := va_up A 59 (pm_fc (fun j => nI (sp_act t (fun z => g (6 * p + z)) j)) (A 59) 6)) (B := B) (p := p) (q := q) (t := t) (o := o) hq (b := (0, 0)) (F := fun v h1 => v = some (.int (nI (sp_b (sp_act t (fun z => g (6 * p + z))) 6))) ∧ h1 = (pmM h mi ml (va_up (va_up A 59 (pm_fc (fun j => nI (sp_act t (fun z => g (6 * p + z)) j)) (A 59) 6)) 58 (m_fg (A 58) q (fun j => nI (sp_act t (fun z => g (6 * p + z)) j)) 6)) B)) ?_ 6 0 (by omega)
    · have e9 := congrArg (fun z => pmM h mi ml z B) eA2
      rw [show va_up A 59 (pm_fc (fun j => nI (sp_act t (fun z => g (6 * p + z)) j)) (A 59) 6) 58 = A 58 from rfl, show va_up A 59 (pm_fc (fun j => nI (sp_act t (fun z => g (6 * p + z)) j)) (A 59) 6) 59 = pm_fc (fun j => nI (sp_act t (fun z => g (6 * p + z)) j)) (A 59) 6 from rfl, e9] at K
      exact K
    · rw [show va_up A 59 (pm_fc (fun j => nI (sp_act t (fun z => g (6 * p + z)) j)) (A 59) 6) 58 = A 58 from rfl, show va_up A 59 (pm_fc (fun j => nI (sp_act t (fun z => g (6 * p + z)) j)) (A 59) 6) 59 = pm_fc (fun j => nI (sp_act t (fun z => g (6 * p + z)) j)) (A 59) 6 from rfl, ef]
      have hs9 : ∀ j, j < 48 → va_up (va_up A 59 (pm_fc (fun j => nI (sp_act t (fun z => g (6 * p + z)) j)) (A 59) 6)) 58 (m_fg (A 58) q (fun j => nI (sp_act t (fun z => g (6 * p + z)) j)) 6) 58 j = nI (m_g2 g q (sp_act t (fun z => g (6 * p + z))) j) ∧ 6 ≤ m_g2 g q (sp_act t (fun z => g (6 * p + z))) j ∧ m_g2 g q (sp_act t (fun z => g (6 * p + z))) j ≤ 9 := m_g2_ok hg (fun j hj => sp_act_in hgp hj)
      have eb : sp_b (fun z => m_g2 g q (sp_act t (fun z => g (6 * p + z))) (6 * q + z)) 6 = sp_b (sp_act t (fun z => g (6 * p + z))) 6 := sp_b_cong (fun j hj => by unfold m_g2; rw [if_pos (by omega), Nat.add_sub_cancel_left])
      refine r_aload_0 d_X10_act_170 ?_
      refine r_iload_3 d_X10_act_171 ?_
      refine r_V1 d_X10_act_172 (c_X10_numberOf hq hs9) rfl rfl rfl ⟨rfl, rfl⟩ (Nat.le_of_ble_eq_true rfl) ?_
      rw [eb]
      refine r_ireturn d_X10_act_175 ⟨_, rfl, rfl⟩ ?_
      exact ⟨rfl, rfl⟩
  refine pm_enter rfl (Nat.le_of_ble_eq_true rfl) ?_
  show pm_V e_X10_act 0 [some (.ref 44), some (.int (nI p)), some (.int (nI t)), some (.int (nI q)), none, none] [] (pmM h mi ml A B) (0, 0) _
  refine r_iload_1 d_X10_act_0 ?_
  refine r_S1 d_X10_act_1 (c_X10_isFigureN (by omega)) ⟨rfl, rfl⟩ (Nat.le_of_ble_eq_true rfl) ?_
  refine r_if_eq d_X10_act_4 (fun c4 => absurd c4 (by decide)) (fun c4 => ?_)
  clear c4
  refine r_iload_3 d_X10_act_7 ?_
  refine r_S1 d_X10_act_8 (c_X10_isFigureN (by omega)) ⟨rfl, rfl⟩ (Nat.le_of_ble_eq_true rfl) ?_
  refine r_if_eq d_X10_act_11 (fun c11 => absurd c11 (by decide)) (fun c11 => ?_)
  clear c11
  refine r_iload_2 d_X10_act_14 ?_
  refine r_push (v := nI 0) d_X10_act_15 ?_
  refine r_push (v := nI 3) d_X10_act_16 ?_
  refine r_S3 d_X10_act_17 (c_X10_inN (by omega) (by omega) (by decide)) ⟨rfl, rfl⟩ (Nat.le_of_ble_eq_true rfl) ?_
  refine r_if_ne d_X10_act_20 (fun c20 => ?_) (fun c20 => absurd c20 (by decide))
  clear c20
  refine r_push (v := nI 0) d_X10_act_25 ?_
  refine r_istore_4 d_X10_act_26 (Nat.le_of_ble_eq_true rfl) (fun w hw => by cases hw <;> rfl) ?_
  rcases (by omega : t = 0 ∨ t = 1 ∨ t = 2 ∨ t = 3) with rfl | rfl | rfl | rfl
  · have K := lp_act_0 (h := h) (mi := mi) (ml := ml) (B := B) (q := q) hp hg tail 6 0 (by omega) none
    rw [eA] at K
    exact K
  · have K := lp_act_1 (h := h) (mi := mi) (ml := ml) (B := B) (q := q) hp hg tail 6 0 (by omega) none
    rw [eA] at K
    exact K
  · have K := lp_act_2 (h := h) (mi := mi) (ml := ml) (B := B) (q := q) hp hg tail 6 0 (by omega) none
    rw [eA] at K
    exact K
  · have K := lp_act_3 (h := h) (mi := mi) (ml := ml) (B := B) (q := q) hp hg tail 6 0 (by omega) none
    rw [eA] at K
    exact K
theorem m_cas_k {A : Nat → Nat → Int32} {c kd n k f lo hi : Nat} (hs : m_cas A c kd n k f lo hi) : kd = 0 ∨ kd = 2 ∨ pm_ok n k f lo hi := by
  obtain ⟨e1, ⟨e2, e3⟩ | ⟨e2, e3, e4, e5, e6, e7⟩⟩ := hs
  · rcases e2 with e2 | e2
    · exact Or.inl e2
    · exact Or.inr (Or.inl e2)
  · obtain ⟨g3, g4, g5, g6, g7, g8, s1, s2, s3, s4⟩ := e6
    exact Or.inr (Or.inr ⟨e3, e4, g3, g4, g5, g6, g7, g8⟩)
theorem m_cas_up {A : Nat → Nat → Int32} {c kd n k f lo hi x : Nat} {y : Nat → Int32} (hx : x < 46 ∨ 51 < x) (hs : m_cas A c kd n k f lo hi) : m_cas (va_up A x y) c kd n k f lo hi := by
  have e : ∀ q, 46 ≤ q → q ≤ 51 → va_up A x y q = A q := by
    intro q h1 h2
    simp only [va_up]
    rw [if_neg (by omega)]
  unfold m_cas m_sk at *
  rw [e 46 (by omega) (by omega), e 47 (by omega) (by omega), e 48 (by omega) (by omega), e 49 (by omega) (by omega), e 50 (by omega) (by omega), e 51 (by omega) (by omega)]
  exact hs
set_option maxRecDepth 10000 in
set_option maxHeartbeats 4000000 in
theorem lp_X10_draw {h : pm_H} {mi : Nat → Int32} {ml : Nat → Int64} {A : Nat → Nat → Int32} {B : Nat → Nat → Int64} {p c kd n k f lo hi : Nat} {s : Int64} (hp : p < 8) (hc : c < 10) (hs : m_cas A c kd n k f lo hi) {F : Option Value → pm_H → Prop} {b : Nat × Nat} (K : pm_V e_X10_draw 119 [some (.ref 44), some (.int (nI p)), some (.int (nI c)), some (.long s), none, some (.int (nI (sp_fit (sp_ln kd n k f lo hi s) 6))), some (.int (nI (sp_old (sp_ln kd n k f lo hi s) 6))), some (.int (nI 6))] [] (pmM h mi (vp_updL ml 5 (sp_sd kd n k f lo hi s 6)) (va_up A 59 (pm_fc (fun j => nI ((sp_ln kd n k f lo hi s) j)) (A 59) 6)) B) b F) : ∀ (d i : Nat), i + d = 6 → pm_V e_X10_draw 31 [some (.ref 44), some (.int (nI p)), some (.int (nI c)), some (.long s), none, some (.int (nI (sp_fit (sp_ln kd n k f lo hi s) i))), some (.int (nI (sp_old (sp_ln kd n k f lo hi s) i))), some (.int (nI i))] [] (pmM h mi (vp_updL ml 5 (sp_sd kd n k f lo hi s i)) (va_up A 59 (pm_fc (fun j => nI ((sp_ln kd n k f lo hi s) j)) (A 59) i)) B) b F := by
  intro d
  induction d with
  | zero =>
    intro i hid
    obtain rfl : i = 6 := by omega
    refine r_iload_7 d_X10_draw_31 ?_
    refine r_push (v := nI 6) d_X10_draw_33 ?_
    refine r_icmp_ge d_X10_draw_35 (fun c35 => ?_) (fun c35 => absurd (by decide) c35)
    clear c35
    exact K
  | succ d ih =>
    intro i hid
    have hle := sp_draw_le (m_cas_k hs) (sp_sd kd n k f lo hi s i)
    have hfl := sp_fit_le (sp_ln kd n k f lo hi s) i
    have hol := sp_old_le (sp_ln kd n k f lo hi s) i
    have eln : sp_ln kd n k f lo hi s i = (sp_draw kd n k f lo hi (sp_sd kd n k f lo hi s i)).1 := rfl
    rw [← eln] at hle
    have e6 : pm_fc (fun j => nI ((sp_ln kd n k f lo hi s) j)) (A 59) (i + 1) i = nI (sp_ln kd n k f lo hi s i) := pm_fc_in (by omega)
    have eo : sp_old (sp_ln kd n k f lo hi s) (i + 1) = sp_old (sp_ln kd n k f lo hi s) i + sp_o (sp_ln kd n k f lo hi s i) := rfl
    have eo1 : sp_o (sp_ln kd n k f lo hi s i) = if sp_ln kd n k f lo hi s i = 6 ∨ sp_ln kd n k f lo hi s i = 9 then 1 else 0 := rfl
    have efi : sp_fit (sp_ln kd n k f lo hi s) (i + 1) = if 6 ≤ sp_ln kd n k f lo hi s i ∧ sp_ln kd n k f lo hi s i ≤ 9 then sp_fit (sp_ln kd n k f lo hi s) i else 0 := rfl
    have key : ∀ z, z = sp_fit (sp_ln kd n k f lo hi s) (i + 1) → pm_V e_X10_draw 79 [some (.ref 44), some (.int (nI p)), some (.int (nI c)), some (.long s), none, some (.int (nI z)), some (.int (nI (sp_old (sp_ln kd n k f lo hi s) i))), some (.int (nI i))] [] (pmM h mi (vp_updL ml 5 (sp_sd kd n k f lo hi s (i + 1))) (va_up A 59 (pm_fc (fun j => nI ((sp_ln kd n k f lo hi s) j)) (A 59) (i + 1))) B) b F := by
      intro z hz
      refine r_iload_6 d_X10_draw_79 ?_
      refine r_aload_0 d_X10_draw_81 ?_
      refine r_get d_X10_draw_82 s10_six rfl rfl ?_
      refine r_iload_7 d_X10_draw_85 ?_
      refine r_iald d_X10_draw_87 rfl (pm_ixN (by omega) (by omega)) ?_
      rw [show va_up A 59 (pm_fc (fun j => nI ((sp_ln kd n k f lo hi s) j)) (A 59) (i + 1)) 59 i = nI (sp_ln kd n k f lo hi s i) from e6]
      refine r_push (v := nI 6) d_X10_draw_88 ?_
      refine r_icmp_eq d_X10_draw_90 (fun c90 => ?_) (fun c90 => ?_)
      · -- taken at 90
        have c90 : (sp_ln kd n k f lo hi s i) = 6 := (nI_eq (a := (sp_ln kd n k f lo hi s i)) (b := 6) (by omega) (by omega)).mp c90
        refine r_push (v := nI 1) d_X10_draw_105 ?_
        refine r_goto d_X10_draw_106 ?_
        refine r_iadd d_X10_draw_110 ?_
        rw [nI_add]
        refine r_istore_6 d_X10_draw_111 (Nat.le_of_ble_eq_true rfl) (fun w hw => by cases hw <;> rfl) ?_
        refine r_iinc_7 d_X10_draw_113 (Nat.le_of_ble_eq_true rfl) (fun w hw => by cases hw <;> rfl) ?_
        rw [nI_1]
        refine r_goto d_X10_draw_116 ?_
        have ih9 := ih (i + 1) (by omega)
        rw [← hz] at ih9
        first | (rw [show sp_old (sp_ln kd n k f lo hi s) i + 1 = sp_old (sp_ln kd n k f lo hi s) (i + 1) by rw [eo, eo1, if_pos (by omega)]]; exact ih9) | (rw [show sp_old (sp_ln kd n k f lo hi s) i + 0 = sp_old (sp_ln kd n k f lo hi s) (i + 1) by rw [eo, eo1, if_neg (by omega)]]; exact ih9)
      · -- not taken at 90
        have c90 : ¬ (sp_ln kd n k f lo hi s i) = 6 := fun zz9 => c90 ((nI_eq (a := (sp_ln kd n k f lo hi s i)) (b := 6) (by omega) (by omega)).mpr zz9)
        refine r_aload_0 d_X10_draw_93 ?_
        refine r_get d_X10_draw_94 s10_six rfl rfl ?_
        refine r_iload_7 d_X10_draw_97 ?_
        refine r_iald d_X10_draw_99 rfl (pm_ixN (by omega) (by omega)) ?_
        rw [show va_up A 59 (pm_fc (fun j => nI ((sp_ln kd n k f lo hi s) j)) (A 59) (i + 1)) 59 i = nI (sp_ln kd n k f lo hi s i) from e6]
        refine r_push (v := nI 9) d_X10_draw_100 ?_
        refine r_icmp_ne d_X10_draw_102 (fun c102 => ?_) (fun c102 => ?_)
        · -- taken at 102
          have c102 : ¬ (sp_ln kd n k f lo hi s i) = 9 := fun zz9 => c102 ((nI_eq (a := (sp_ln kd n k f lo hi s i)) (b := 9) (by omega) (by omega)).mpr zz9)
          refine r_push (v := nI 0) d_X10_draw_109 ?_
          refine r_iadd d_X10_draw_110 ?_
          rw [nI_add]
          refine r_istore_6 d_X10_draw_111 (Nat.le_of_ble_eq_true rfl) (fun w hw => by cases hw <;> rfl) ?_
          refine r_iinc_7 d_X10_draw_113 (Nat.le_of_ble_eq_true rfl) (fun w hw => by cases hw <;> rfl) ?_
          rw [nI_1]
          refine r_goto d_X10_draw_116 ?_
          have ih9 := ih (i + 1) (by omega)
          rw [← hz] at ih9
          first | (rw [show sp_old (sp_ln kd n k f lo hi s) i + 1 = sp_old (sp_ln kd n k f lo hi s) (i + 1) by rw [eo, eo1, if_pos (by omega)]]; exact ih9) | (rw [show sp_old (sp_ln kd n k f lo hi s) i + 0 = sp_old (sp_ln kd n k f lo hi s) (i + 1) by rw [eo, eo1, if_neg (by omega)]]; exact ih9)
        · -- not taken at 102
          have c102 : (sp_ln kd n k f lo hi s i) = 9 := (nI_eq (a := (sp_ln kd n k f lo hi s i)) (b := 9) (by omega) (by omega)).mp c102
          refine r_push (v := nI 1) d_X10_draw_105 ?_
          refine r_goto d_X10_draw_106 ?_
          refine r_iadd d_X10_draw_110 ?_
          rw [nI_add]
          refine r_istore_6 d_X10_draw_111 (Nat.le_of_ble_eq_true rfl) (fun w hw => by cases hw <;> rfl) ?_
          refine r_iinc_7 d_X10_draw_113 (Nat.le_of_ble_eq_true rfl) (fun w hw => by cases hw <;> rfl) ?_
          rw [nI_1]
          refine r_goto d_X10_draw_116 ?_
          have ih9 := ih (i + 1) (by omega)
          rw [← hz] at ih9
          first | (rw [show sp_old (sp_ln kd n k f lo hi s) i + 1 = sp_old (sp_ln kd n k f lo hi s) (i + 1) by rw [eo, eo1, if_pos (by omega)]]; exact ih9) | (rw [show sp_old (sp_ln kd n k f lo hi s) i + 0 = sp_old (sp_ln kd n k f lo hi s) (i + 1) by rw [eo, eo1, if_neg (by omega)]]; exact ih9)
    have hbi := pm_bl_le (sp_in (nI (sp_ln kd n k f lo hi s i)) (nI 6) (nI 9))
    refine r_iload_7 d_X10_draw_31 ?_
    refine r_push (v := nI 6) d_X10_draw_33 ?_
    refine r_icmp_ge d_X10_draw_35 (fun c35 => ?_) (fun c35 => ?_)
    · -- taken at 35
      have c35 : 6 ≤ i := (nI_leI (a := 6) (b := i) (by omega) (by omega)).mp c35
      exfalso; omega
    · -- not taken at 35
      have c35 : ¬ 6 ≤ i := fun zz9 => c35 ((nI_leI (a := 6) (b := i) (by omega) (by omega)).mpr zz9)
      refine r_aload_0 d_X10_draw_38 ?_
      refine r_get d_X10_draw_39 s10_six rfl rfl ?_
      refine r_iload_7 d_X10_draw_42 ?_
      refine r_aload_0 d_X10_draw_44 ?_
      refine r_iload_2 d_X10_draw_45 ?_
      refine r_V1 d_X10_draw_46 (c_X10_draws hc (m_cas_up (by decide) hs)) rfl rfl rfl ⟨rfl, rfl⟩ (Nat.le_of_ble_eq_true rfl) ?_
      rw [pm_luu, show vp_updL ml 5 (sp_sd kd n k f lo hi s i) 5 = (sp_sd kd n k f lo hi s i) from rfl, ← sp_sd_s, ← eln]
      refine r_iast d_X10_draw_49 rfl (pm_ixN (by omega) (by omega)) ?_
      rw [pmM_six, m_aua, show upd (va_up A 59 (pm_fc (fun j => nI ((sp_ln kd n k f lo hi s) j)) (A 59) i) 59) i (nI (sp_ln kd n k f lo hi s i)) = pm_fc (fun j => nI ((sp_ln kd n k f lo hi s) j)) (A 59) (i + 1) from pm_fc_s _ _ _]
      refine r_iload_5 d_X10_draw_50 ?_
      refine r_if_eq d_X10_draw_52 (fun c52 => ?_) (fun c52 => ?_)
      · -- taken at 52
        have c52 : (sp_fit (sp_ln kd n k f lo hi s) i) = 0 := (nI_eq (a := (sp_fit (sp_ln kd n k f lo hi s) i)) (b := 0) (by omega) (by omega)).mp c52
        refine r_push (v := nI 0) d_X10_draw_76 ?_
        refine r_istore_5 d_X10_draw_77 (Nat.le_of_ble_eq_true rfl) (fun w hw => by cases hw <;> rfl) ?_
        refine key _ ?_
        rw [efi]
        first
        | (rw [show sp_fit (sp_ln kd n k f lo hi s) i = 0 by omega]; split <;> rfl)
        | (have h9 := pm_bl0.mp c69; rw [if_neg (fun h8 => by rw [pm_sin (lo := 6) (hi := 9) h8.1 h8.2 (by decide)] at h9; exact absurd h9 (by decide))])
        | (have h9 := pm_bl1 c69; obtain ⟨y, hy1, hy2, hy3⟩ := sp_in_nat (lo := 6) (hi := 9) (by decide) (by decide) h9; have hy4 := (nI_eq (a := sp_ln kd n k f lo hi s i) (b := y) (by omega) (by omega)).mp hy3; rw [if_pos (by omega)]; omega)
      · -- not taken at 52
        have c52 : ¬ (sp_fit (sp_ln kd n k f lo hi s) i) = 0 := fun zz9 => c52 ((nI_eq (a := (sp_fit (sp_ln kd n k f lo hi s) i)) (b := 0) (by omega) (by omega)).mpr zz9)
        refine r_aload_0 d_X10_draw_55 ?_
        refine r_get d_X10_draw_56 s10_six rfl rfl ?_
        refine r_iload_7 d_X10_draw_59 ?_
        refine r_iald d_X10_draw_61 rfl (pm_ixN (by omega) (by omega)) ?_
        rw [show va_up A 59 (pm_fc (fun j => nI ((sp_ln kd n k f lo hi s) j)) (A 59) (i + 1)) 59 i = nI (sp_ln kd n k f lo hi s i) from e6]
        refine r_push (v := nI 6) d_X10_draw_62 ?_
        refine r_push (v := nI 9) d_X10_draw_64 ?_
        refine r_S3 d_X10_draw_66 c_X10_in ⟨rfl, rfl⟩ (Nat.le_of_ble_eq_true rfl) ?_
        refine r_if_eq d_X10_draw_69 (fun c69 => ?_) (fun c69 => ?_)
        · -- taken at 69
          have c69 : (pm_bl (sp_in (nI (sp_ln kd n k f lo hi s i)) (nI 6) (nI 9))) = 0 := (nI_eq (a := (pm_bl (sp_in (nI (sp_ln kd n k f lo hi s i)) (nI 6) (nI 9)))) (b := 0) (by omega) (by omega)).mp c69
          refine r_push (v := nI 0) d_X10_draw_76 ?_
          refine r_istore_5 d_X10_draw_77 (Nat.le_of_ble_eq_true rfl) (fun w hw => by cases hw <;> rfl) ?_
          refine key _ ?_
          rw [efi]
          first
          | (rw [show sp_fit (sp_ln kd n k f lo hi s) i = 0 by omega]; split <;> rfl)
          | (have h9 := pm_bl0.mp c69; rw [if_neg (fun h8 => by rw [pm_sin (lo := 6) (hi := 9) h8.1 h8.2 (by decide)] at h9; exact absurd h9 (by decide))])
          | (have h9 := pm_bl1 c69; obtain ⟨y, hy1, hy2, hy3⟩ := sp_in_nat (lo := 6) (hi := 9) (by decide) (by decide) h9; have hy4 := (nI_eq (a := sp_ln kd n k f lo hi s i) (b := y) (by omega) (by omega)).mp hy3; rw [if_pos (by omega)]; omega)
        · -- not taken at 69
          have c69 : ¬ (pm_bl (sp_in (nI (sp_ln kd n k f lo hi s i)) (nI 6) (nI 9))) = 0 := fun zz9 => c69 ((nI_eq (a := (pm_bl (sp_in (nI (sp_ln kd n k f lo hi s i)) (nI 6) (nI 9)))) (b := 0) (by omega) (by omega)).mpr zz9)
          refine r_push (v := nI 1) d_X10_draw_72 ?_
          refine r_goto d_X10_draw_73 ?_
          refine r_istore_5 d_X10_draw_77 (Nat.le_of_ble_eq_true rfl) (fun w hw => by cases hw <;> rfl) ?_
          refine key _ ?_
          rw [efi]
          first
          | (rw [show sp_fit (sp_ln kd n k f lo hi s) i = 0 by omega]; split <;> rfl)
          | (have h9 := pm_bl0.mp c69; rw [if_neg (fun h8 => by rw [pm_sin (lo := 6) (hi := 9) h8.1 h8.2 (by decide)] at h9; exact absurd h9 (by decide))])
          | (have h9 := pm_bl1 c69; obtain ⟨y, hy1, hy2, hy3⟩ := sp_in_nat (lo := 6) (hi := 9) (by decide) (by decide) h9; have hy4 := (nI_eq (a := sp_ln kd n k f lo hi s i) (b := y) (by omega) (by omega)).mp hy3; rw [if_pos (by omega)]; omega)
set_option maxRecDepth 10000 in
set_option maxHeartbeats 4000000 in
theorem lp_X10_draw2 {h : pm_H} {mi : Nat → Int32} {ml : Nat → Int64} {A : Nat → Nat → Int32} {B : Nat → Nat → Int64} {p c od : Nat} {s : Int64} (hp : p < 8) {F : Option Value → pm_H → Prop} {b : Nat × Nat} (K : pm_V e_X10_draw 159 [some (.ref 44), some (.int (nI p)), some (.int (nI c)), some (.long s), none, some (.int (nI 1)), some (.int (nI od)), some (.int (nI 6))] [] (pmM h mi ml (va_up A 58 (m_fg (A 58) p (A 59) 6)) B) b F) : ∀ (d i : Nat), i + d = 6 → pm_V e_X10_draw 122 [some (.ref 44), some (.int (nI p)), some (.int (nI c)), some (.long s), none, some (.int (nI 1)), some (.int (nI od)), some (.int (nI i))] [] (pmM h mi ml (va_up A 58 (m_fg (A 58) p (A 59) i)) B) b F := by
  intro d
  induction d with
  | zero =>
    intro i hid
    obtain rfl : i = 6 := by omega
    refine r_iload_7 d_X10_draw_122 ?_
    refine r_push (v := nI 6) d_X10_draw_124 ?_
    refine r_icmp_ge d_X10_draw_126 (fun c126 => ?_) (fun c126 => absurd (by decide) c126)
    clear c126
    exact K
  | succ d ih =>
    intro i hid
    refine r_iload_7 d_X10_draw_122 ?_
    refine r_push (v := nI 6) d_X10_draw_124 ?_
    refine r_icmp_ge d_X10_draw_126 (fun c126 => ?_) (fun c126 => ?_)
    · -- taken at 126
      have c126 : 6 ≤ i := (nI_leI (a := 6) (b := i) (by omega) (by omega)).mp c126
      exfalso; omega
    · -- not taken at 126
      have c126 : ¬ 6 ≤ i := fun zz9 => c126 ((nI_leI (a := 6) (b := i) (by omega) (by omega)).mpr zz9)
      refine r_iload_5 d_X10_draw_129 ?_
      refine r_if_eq d_X10_draw_131 (fun c131 => absurd c131 (by decide)) (fun c131 => ?_)
      clear c131
      refine r_aload_0 d_X10_draw_134 ?_
      refine r_get d_X10_draw_135 s10_figures rfl rfl ?_
      refine r_push (v := nI 6) d_X10_draw_138 ?_
      refine r_iload_1 d_X10_draw_140 ?_
      refine r_imul d_X10_draw_141 ?_
      rw [pk_mul]
      refine r_iload_7 d_X10_draw_142 ?_
      refine r_iadd d_X10_draw_144 ?_
      rw [nI_add]
      refine r_aload_0 d_X10_draw_145 ?_
      refine r_get d_X10_draw_146 s10_six rfl rfl ?_
      refine r_iload_7 d_X10_draw_149 ?_
      refine r_iald d_X10_draw_151 rfl (pm_ixN (by omega) (by omega)) ?_
      refine r_iast d_X10_draw_152 rfl (pm_ixN (by omega) (by omega)) ?_
      rw [pmM_figures, m_aua, show upd (va_up A 58 (m_fg (A 58) p (A 59) i) 58) (6 * p + i) (va_up A 58 (m_fg (A 58) p (A 59) i) 59 i) = m_fg (A 58) p (A 59) (i + 1) from m_fg_s _ _ _ _]
      refine r_iinc_7 d_X10_draw_153 (Nat.le_of_ble_eq_true rfl) (fun w hw => by cases hw <;> rfl) ?_
      rw [nI_1]
      refine r_goto d_X10_draw_156 ?_
      exact ih (i + 1) (by omega)
set_option maxRecDepth 10000 in
set_option maxHeartbeats 4000000 in
theorem c_X10_draw_bad1 {h : pm_H} {mi : Nat → Int32} {ml : Nat → Int64} {A : Nat → Nat → Int32} {B : Nat → Nat → Int64} {f c : Int32} {s : Int64} (hf : sp_in f 0 7 = false) : pm_Cv e_X10_draw [.ref 44, .int f, .int c, .long s] (pmM h mi ml A B) (.int (-1)) (pmM h mi ml A B) := by
  refine pm_enter rfl (Nat.le_of_ble_eq_true rfl) ?_
  show pm_V e_X10_draw 0 [some (.ref 44), some (.int f), some (.int c), some (.long s), none, none, none, none] [] (pmM h mi ml A B) (0, 0) _
  refine r_iload_1 d_X10_draw_0 ?_
  refine r_S1 d_X10_draw_1 c_X10_isFigure ⟨rfl, rfl⟩ (Nat.le_of_ble_eq_true rfl) ?_
  rw [hf]
  show pm_V _ _ _ (.int (nI 0) :: _) _ _ _
  refine r_if_eq d_X10_draw_4 (fun c4 => ?_) (fun c4 => absurd (by decide) c4)
  clear c4
  refine r_push d_X10_draw_15 ?_
  refine r_ireturn d_X10_draw_16 ⟨_, rfl, rfl⟩ ?_
  exact ⟨rfl, rfl⟩
set_option maxRecDepth 10000 in
set_option maxHeartbeats 4000000 in
theorem c_X10_draw_bad2 {h : pm_H} {mi : Nat → Int32} {ml : Nat → Int64} {A : Nat → Nat → Int32} {B : Nat → Nat → Int64} {f c : Int32} {s : Int64} {cn : Nat} (hcn : mi 1 = nI cn) (hn10 : cn ≤ 10) (hf : sp_in f 0 7 = true) (hci : pm_ci c cn = none) : pm_Cv e_X10_draw [.ref 44, .int f, .int c, .long s] (pmM h mi ml A B) (.int (-1)) (pmM h mi ml A B) := by
  refine pm_enter rfl (Nat.le_of_ble_eq_true rfl) ?_
  show pm_V e_X10_draw 0 [some (.ref 44), some (.int f), some (.int c), some (.long s), none, none, none, none] [] (pmM h mi ml A B) (0, 0) _
  refine r_iload_1 d_X10_draw_0 ?_
  refine r_S1 d_X10_draw_1 c_X10_isFigure ⟨rfl, rfl⟩ (Nat.le_of_ble_eq_true rfl) ?_
  rw [hf]
  show pm_V _ _ _ (.int (nI 1) :: _) _ _ _
  refine r_if_eq d_X10_draw_4 (fun c4 => absurd c4 (by decide)) (fun c4 => ?_)
  clear c4
  refine r_aload_0 d_X10_draw_7 ?_
  refine r_iload_2 d_X10_draw_8 ?_
  refine r_V1 d_X10_draw_9 (c_X10_isCaster hcn hn10) rfl rfl rfl ⟨rfl, rfl⟩ (Nat.le_of_ble_eq_true rfl) ?_
  rw [hci]
  show pm_V _ _ _ (.int (nI 0) :: _) _ _ _
  refine r_if_ne d_X10_draw_12 (fun c12 => absurd (by decide) c12) (fun c12 => ?_)
  clear c12
  refine r_push d_X10_draw_15 ?_
  refine r_ireturn d_X10_draw_16 ⟨_, rfl, rfl⟩ ?_
  exact ⟨rfl, rfl⟩
set_option maxRecDepth 10000 in
set_option maxHeartbeats 4000000 in
theorem c_X10_draw_no {h : pm_H} {mi : Nat → Int32} {ml : Nat → Int64} {A : Nat → Nat → Int32} {B : Nat → Nat → Int64} {p c cn kd n k f lo hi : Nat} {s : Int64} (hp : p < 8) (hcn : mi 1 = nI cn) (hn10 : cn ≤ 10) (hj : c < cn) (hs : m_cas A c kd n k f lo hi) (hfit : sp_fit (sp_ln kd n k f lo hi s) 6 = 0) : pm_Cv e_X10_draw [.ref 44, .int (nI p), .int (nI c), .long s] (pmM h mi ml A B) (.int (-4)) (pmM h mi (vp_updL ml 5 (sp_sd kd n k f lo hi s 6)) (va_up A 59 (pm_fc (fun j => nI ((sp_ln kd n k f lo hi s) j)) (A 59) 6)) B) := by
  have hci := pm_ci_of (cn := cn) hj (by omega)
  have eA : pmM h mi (vp_updL ml 5 s) A B = (pmM h mi (vp_updL ml 5 (sp_sd kd n k f lo hi s 0)) (va_up A 59 (pm_fc (fun j => nI ((sp_ln kd n k f lo hi s) j)) (A 59) 0)) B) := by rw [pm_fc_0, m_aus, show (sp_sd kd n k f lo hi s 0) = s by rw [sp_sd]]
  refine pm_enter rfl (Nat.le_of_ble_eq_true rfl) ?_
  show pm_V e_X10_draw 0 [some (.ref 44), some (.int (nI p)), some (.int (nI c)), some (.long s), none, none, none, none] [] (pmM h mi ml A B) (0, 0) _
  refine r_iload_1 d_X10_draw_0 ?_
  refine r_S1 d_X10_draw_1 (c_X10_isFigureN (by omega)) ⟨rfl, rfl⟩ (Nat.le_of_ble_eq_true rfl) ?_
  refine r_if_eq d_X10_draw_4 (fun c4 => absurd c4 (by decide)) (fun c4 => ?_)
  clear c4
  refine r_aload_0 d_X10_draw_7 ?_
  refine r_iload_2 d_X10_draw_8 ?_
  refine r_V1 d_X10_draw_9 (c_X10_isCaster hcn hn10) rfl rfl rfl ⟨rfl, rfl⟩ (Nat.le_of_ble_eq_true rfl) ?_
  rw [hci]
  show pm_V _ _ _ (.int (nI 1) :: _) _ _ _
  refine r_if_ne d_X10_draw_12 (fun c12 => ?_) (fun c12 => absurd c12 (by decide))
  clear c12
  refine r_aload_0 d_X10_draw_17 ?_
  refine r_lload_3 d_X10_draw_18 ?_
  refine r_put d_X10_draw_19 s10_seed rfl (Nat.le_of_ble_eq_true rfl) ⟨rfl, rfl⟩ ?_
  rw [pmM_seed]
  refine r_push (v := nI 1) d_X10_draw_22 ?_
  refine r_istore_5 d_X10_draw_23 (Nat.le_of_ble_eq_true rfl) (fun w hw => by cases hw <;> rfl) ?_
  refine r_push (v := nI 0) d_X10_draw_25 ?_
  refine r_istore_6 d_X10_draw_26 (Nat.le_of_ble_eq_true rfl) (fun w hw => by cases hw <;> rfl) ?_
  refine r_push (v := nI 0) d_X10_draw_28 ?_
  refine r_istore_7 d_X10_draw_29 (Nat.le_of_ble_eq_true rfl) (fun w hw => by cases hw <;> rfl) ?_
  rw [show vp_updL ml 5 s = vp_updL ml 5 s from rfl, eA]
  refine lp_X10_draw (kd := kd) (n := n) (k := k) (f := f) (lo := lo) (hi := hi) (s := s) hp (by omega) hs ?_ 6 0 (by omega)
  rw [hfit]
  refine r_push (v := nI 0) d_X10_draw_119 ?_
  refine r_istore_7 d_X10_draw_120 (Nat.le_of_ble_eq_true rfl) (fun w hw => by cases hw <;> rfl) ?_
  refine r_iload_7 d_X10_draw_122 ?_
  refine r_push (v := nI 6) d_X10_draw_124 ?_
  refine r_icmp_ge d_X10_draw_126 (fun c126 => absurd c126 (by decide)) (fun c126 => ?_)
  clear c126
  refine r_iload_5 d_X10_draw_129 ?_
  refine r_if_eq d_X10_draw_131 (fun c131 => ?_) (fun c131 => absurd (by decide) c131)
  clear c131
  refine r_iload_5 d_X10_draw_159 ?_
  refine r_if_eq d_X10_draw_161 (fun c161 => ?_) (fun c161 => absurd (by decide) c161)
  clear c161
  refine r_push d_X10_draw_169 ?_
  refine r_ireturn d_X10_draw_171 ⟨_, rfl, rfl⟩ ?_
  exact ⟨rfl, rfl⟩
set_option maxRecDepth 10000 in
set_option maxHeartbeats 4000000 in
theorem c_X10_draw {h : pm_H} {mi : Nat → Int32} {ml : Nat → Int64} {A : Nat → Nat → Int32} {B : Nat → Nat → Int64} {p c cn kd n k f lo hi : Nat} {s : Int64} (hp : p < 8) (hcn : mi 1 = nI cn) (hn10 : cn ≤ 10) (hj : c < cn) (hs : m_cas A c kd n k f lo hi) (hfit : sp_fit (sp_ln kd n k f lo hi s) 6 = 1) : pm_Cv e_X10_draw [.ref 44, .int (nI p), .int (nI c), .long s] (pmM h mi ml A B) (.int (nI (sp_old (sp_ln kd n k f lo hi s) 6))) (pmM h mi (vp_updL ml 5 (sp_sd kd n k f lo hi s 6)) (va_up (va_up A 59 (pm_fc (fun j => nI ((sp_ln kd n k f lo hi s) j)) (A 59) 6)) 58 (m_fg (A 58) p (fun j => nI ((sp_ln kd n k f lo hi s) j)) 6)) B) := by
  have hci := pm_ci_of (cn := cn) hj (by omega)
  have eA : pmM h mi (vp_updL ml 5 s) A B = (pmM h mi (vp_updL ml 5 (sp_sd kd n k f lo hi s 0)) (va_up A 59 (pm_fc (fun j => nI ((sp_ln kd n k f lo hi s) j)) (A 59) 0)) B) := by rw [pm_fc_0, m_aus, show (sp_sd kd n k f lo hi s 0) = s by rw [sp_sd]]
  have ef : m_fg (A 58) p (pm_fc (fun j => nI ((sp_ln kd n k f lo hi s) j)) (A 59) 6) 6 = m_fg (A 58) p (fun j => nI ((sp_ln kd n k f lo hi s) j)) 6 := m_fg_cong (fun j hj => pm_fc_in hj)
  refine pm_enter rfl (Nat.le_of_ble_eq_true rfl) ?_
  show pm_V e_X10_draw 0 [some (.ref 44), some (.int (nI p)), some (.int (nI c)), some (.long s), none, none, none, none] [] (pmM h mi ml A B) (0, 0) _
  refine r_iload_1 d_X10_draw_0 ?_
  refine r_S1 d_X10_draw_1 (c_X10_isFigureN (by omega)) ⟨rfl, rfl⟩ (Nat.le_of_ble_eq_true rfl) ?_
  refine r_if_eq d_X10_draw_4 (fun c4 => absurd c4 (by decide)) (fun c4 => ?_)
  clear c4
  refine r_aload_0 d_X10_draw_7 ?_
  refine r_iload_2 d_X10_draw_8 ?_
  refine r_V1 d_X10_draw_9 (c_X10_isCaster hcn hn10) rfl rfl rfl ⟨rfl, rfl⟩ (Nat.le_of_ble_eq_true rfl) ?_
  rw [hci]
  show pm_V _ _ _ (.int (nI 1) :: _) _ _ _
  refine r_if_ne d_X10_draw_12 (fun c12 => ?_) (fun c12 => absurd c12 (by decide))
  clear c12
  refine r_aload_0 d_X10_draw_17 ?_
  refine r_lload_3 d_X10_draw_18 ?_
  refine r_put d_X10_draw_19 s10_seed rfl (Nat.le_of_ble_eq_true rfl) ⟨rfl, rfl⟩ ?_
  rw [pmM_seed]
  refine r_push (v := nI 1) d_X10_draw_22 ?_
  refine r_istore_5 d_X10_draw_23 (Nat.le_of_ble_eq_true rfl) (fun w hw => by cases hw <;> rfl) ?_
  refine r_push (v := nI 0) d_X10_draw_25 ?_
  refine r_istore_6 d_X10_draw_26 (Nat.le_of_ble_eq_true rfl) (fun w hw => by cases hw <;> rfl) ?_
  refine r_push (v := nI 0) d_X10_draw_28 ?_
  refine r_istore_7 d_X10_draw_29 (Nat.le_of_ble_eq_true rfl) (fun w hw => by cases hw <;> rfl) ?_
  rw [show vp_updL ml 5 s = vp_updL ml 5 s from rfl, eA]
  refine lp_X10_draw (kd := kd) (n := n) (k := k) (f := f) (lo := lo) (hi := hi) (s := s) hp (by omega) hs ?_ 6 0 (by omega)
  rw [hfit]
  refine r_push (v := nI 0) d_X10_draw_119 ?_
  refine r_istore_7 d_X10_draw_120 (Nat.le_of_ble_eq_true rfl) (fun w hw => by cases hw <;> rfl) ?_
  have K := lp_X10_draw2 (h := h) (mi := mi) (ml := vp_updL ml 5 (sp_sd kd n k f lo hi s 6)) (A := va_up A 59 (pm_fc (fun j => nI ((sp_ln kd n k f lo hi s) j)) (A 59) 6)) (B := B) (p := p) (c := c) (od := sp_old (sp_ln kd n k f lo hi s) 6) (s := s) hp (b := (0, 0)) (F := fun v h1 => v = some (.int (nI (sp_old (sp_ln kd n k f lo hi s) 6))) ∧ h1 = (pmM h mi (vp_updL ml 5 (sp_sd kd n k f lo hi s 6)) (va_up (va_up A 59 (pm_fc (fun j => nI ((sp_ln kd n k f lo hi s) j)) (A 59) 6)) 58 (m_fg (A 58) p (fun j => nI ((sp_ln kd n k f lo hi s) j)) 6)) B)) ?_ 6 0 (by omega)
  · have e9 : va_up (va_up A 59 (pm_fc (fun j => nI ((sp_ln kd n k f lo hi s) j)) (A 59) 6)) 58 (m_fg (A 58) p (pm_fc (fun j => nI ((sp_ln kd n k f lo hi s) j)) (A 59) 6) 0) = va_up A 59 (pm_fc (fun j => nI ((sp_ln kd n k f lo hi s) j)) (A 59) 6) := by rw [m_fg_0]; exact m_aus _ 58
    rw [show va_up A 59 (pm_fc (fun j => nI ((sp_ln kd n k f lo hi s) j)) (A 59) 6) 58 = A 58 from rfl, show va_up A 59 (pm_fc (fun j => nI ((sp_ln kd n k f lo hi s) j)) (A 59) 6) 59 = pm_fc (fun j => nI ((sp_ln kd n k f lo hi s) j)) (A 59) 6 from rfl, e9] at K
    exact K
  · rw [show va_up A 59 (pm_fc (fun j => nI ((sp_ln kd n k f lo hi s) j)) (A 59) 6) 58 = A 58 from rfl, show va_up A 59 (pm_fc (fun j => nI ((sp_ln kd n k f lo hi s) j)) (A 59) 6) 59 = pm_fc (fun j => nI ((sp_ln kd n k f lo hi s) j)) (A 59) 6 from rfl, ef]
    refine r_iload_5 d_X10_draw_159 ?_
    refine r_if_eq d_X10_draw_161 (fun c161 => absurd c161 (by decide)) (fun c161 => ?_)
    clear c161
    refine r_iload_6 d_X10_draw_164 ?_
    refine r_goto d_X10_draw_166 ?_
    refine r_ireturn d_X10_draw_171 ⟨_, rfl, rfl⟩ ?_
    exact ⟨rfl, rfl⟩
