set_option maxRecDepth 10000 in
set_option maxHeartbeats 4000000 in
theorem c_X10_need_1 {h : pm_H} {mi : Nat → Int32} {ml : Nat → Int64} {A : Nat → Nat → Int32} {B : Nat → Nat → Int64} {c o : Int32} {cn : Nat} (hcn : mi 1 = nI cn) (hn10 : cn ≤ 10) (hci : (pm_ci c cn).isSome = false) : pm_Cv e_X10_need [.ref 44, .int c, .int o] (pmM h mi ml A B) (.int (-1)) (pmM h mi ml A B) := by
  refine pm_enter rfl (Nat.le_of_ble_eq_true rfl) ?_
  show pm_V e_X10_need 0 [some (.ref 44), some (.int c), some (.int o), none, none] [] (pmM h mi ml A B) (0, 0) _
  refine r_aload_0 d_X10_need_0 ?_
  refine r_iload_1 d_X10_need_1 ?_
  refine r_V1 d_X10_need_2 (c_X10_isCaster hcn hn10) rfl rfl rfl ⟨rfl, rfl⟩ (Nat.le_of_ble_eq_true rfl) ?_
  rw [hci]
  show pm_V _ _ _ (.int (nI 0) :: _) _ _ _
  refine r_if_eq d_X10_need_5 (fun c5 => ?_) (fun c5 => absurd (by decide) c5)
  clear c5
  refine r_push d_X10_need_16 ?_
  refine r_ireturn d_X10_need_17 ⟨_, rfl, rfl⟩ ?_
  exact ⟨rfl, rfl⟩
set_option maxRecDepth 10000 in
set_option maxHeartbeats 4000000 in
theorem c_X10_need_2 {h : pm_H} {mi : Nat → Int32} {ml : Nat → Int64} {A : Nat → Nat → Int32} {B : Nat → Nat → Int64} {c o : Int32} {cn : Nat} (hcn : mi 1 = nI cn) (hn10 : cn ≤ 10) (hci : (pm_ci c cn).isSome = true) (hco : (pm_ci o cn).isSome = false) : pm_Cv e_X10_need [.ref 44, .int c, .int o] (pmM h mi ml A B) (.int (-1)) (pmM h mi ml A B) := by
  refine pm_enter rfl (Nat.le_of_ble_eq_true rfl) ?_
  show pm_V e_X10_need 0 [some (.ref 44), some (.int c), some (.int o), none, none] [] (pmM h mi ml A B) (0, 0) _
  refine r_aload_0 d_X10_need_0 ?_
  refine r_iload_1 d_X10_need_1 ?_
  refine r_V1 d_X10_need_2 (c_X10_isCaster hcn hn10) rfl rfl rfl ⟨rfl, rfl⟩ (Nat.le_of_ble_eq_true rfl) ?_
  rw [hci]
  show pm_V _ _ _ (.int (nI 1) :: _) _ _ _
  refine r_if_eq d_X10_need_5 (fun c5 => absurd c5 (by decide)) (fun c5 => ?_)
  clear c5
  refine r_aload_0 d_X10_need_8 ?_
  refine r_iload_2 d_X10_need_9 ?_
  refine r_V1 d_X10_need_10 (c_X10_isCaster hcn hn10) rfl rfl rfl ⟨rfl, rfl⟩ (Nat.le_of_ble_eq_true rfl) ?_
  rw [hco]
  show pm_V _ _ _ (.int (nI 0) :: _) _ _ _
  refine r_if_ne d_X10_need_13 (fun c13 => absurd (by decide) c13) (fun c13 => ?_)
  clear c13
  refine r_push d_X10_need_16 ?_
  refine r_ireturn d_X10_need_17 ⟨_, rfl, rfl⟩ ?_
  exact ⟨rfl, rfl⟩
set_option maxRecDepth 10000 in
set_option maxHeartbeats 4000000 in
theorem lh_X10_need {h : pm_H} {mi : Nat → Int32} {ml : Nat → Int64} {A : Nat → Nat → Int32} {B : Nat → Nat → Int64} {c o : Nat} {F : Option Value → pm_H → Prop} {b : Nat × Nat}  (K : pm_V e_X10_need 49 [some (.ref 44), some (.int (nI c)), some (.int (nI o)), some (.int (nI 31)), none] [] (pmM h mi ml (va_up A 67 (pm_fc (A 66) (A 67) 31)) B) b F) : ∀ (d i : Nat), i + d = 31 → pm_V e_X10_need 25 [some (.ref 44), some (.int (nI c)), some (.int (nI o)), some (.int (nI i)), none] [] (pmM h mi ml (va_up A 67 (pm_fc (A 66) (A 67) i)) B) b F := by
  intro d
  induction d with
  | zero =>
    intro i hi
    obtain rfl : i = 31 := by omega
    refine r_iload_3 d_X10_need_25 ?_
    refine r_push (v := nI 31) d_X10_need_26 ?_
    refine r_icmp_ge d_X10_need_28 (fun c28 => ?_) (fun c28 => absurd (by decide) c28)
    clear c28
    exact K
  | succ d ih =>
    intro i hi
    refine r_iload_3 d_X10_need_25 ?_
    refine r_push (v := nI 31) d_X10_need_26 ?_
    refine r_icmp_ge d_X10_need_28 (fun c28 => ?_) (fun c28 => ?_)
    · -- taken at 28
      have c28 : 31 ≤ i := (nI_leI (a := 31) (b := i) (by omega) (by omega)).mp c28
      exfalso; omega
    · -- not taken at 28
      have c28 : ¬ 31 ≤ i := fun zz9 => c28 ((nI_leI (a := 31) (b := i) (by omega) (by omega)).mpr zz9)
      refine r_aload_0 d_X10_need_31 ?_
      refine r_get d_X10_need_32 s10_held rfl rfl ?_
      refine r_iload_3 d_X10_need_35 ?_
      refine r_aload_0 d_X10_need_36 ?_
      refine r_get d_X10_need_37 s10_shares rfl rfl ?_
      refine r_iload_3 d_X10_need_40 ?_
      refine r_iald d_X10_need_41 rfl (pm_ixN (by omega) (by omega)) ?_
      refine r_iast d_X10_need_42 rfl (pm_ixN (by omega) (by omega)) ?_
      rw [pmM_held, m_aua, show upd (va_up A 67 (pm_fc (A 66) (A 67) i) 67) i (va_up A 67 (pm_fc (A 66) (A 67) i) 66 i) = pm_fc (A 66) (A 67) (i + 1) from pm_fc_s _ _ _]
      refine r_iinc_3 d_X10_need_43 (Nat.le_of_ble_eq_true rfl) (fun w hw => by cases hw <;> rfl) ?_
      rw [nI_1]
      refine r_goto d_X10_need_46 ?_
      exact ih (i + 1) (by omega)
set_option maxRecDepth 10000 in
set_option maxHeartbeats 4000000 in
theorem lp_X10_need {h : pm_H} {mi : Nat → Int32} {ml : Nat → Int64} {A : Nat → Nat → Int32} {B : Nat → Nat → Int64} {c o : Nat} {p q : Nat → Nat} (hp : ∀ j, j < 31 → A 67 j = nI (p j)) (hq : ∀ j, j < 31 → A 66 j = nI (q j)) (hps : sp_sum p 31 ≤ 1000000) (hqs : sp_sum q 31 ≤ 1000000) {F : Option Value → pm_H → Prop} {b9 : Nat × Nat} (K : pm_V e_X10_need 125 [some (.ref 44), some (.int (nI c)), some (.int (nI o)), some (.int (nI (sp_ad p q 31))), some (.int (nI 31))] [] (pmM h mi ml A B) b9 F) : ∀ (d i : Nat), i + d = 31 → pm_V e_X10_need 59 [some (.ref 44), some (.int (nI c)), some (.int (nI o)), some (.int (nI (sp_ad p q i))), some (.int (nI i))] [] (pmM h mi ml A B) b9 F := by
  intro d
  induction d with
  | zero =>
    intro i hid
    obtain rfl : i = 31 := by omega
    refine r_iload_4 d_X10_need_59 ?_
    refine r_push (v := nI 31) d_X10_need_61 ?_
    refine r_icmp_ge d_X10_need_63 (fun c63 => ?_) (fun c63 => absurd (by decide) c63)
    clear c63
    exact K
  | succ d ih =>
    intro i hid
    have p1 := sp_sum_ge (f := p) (k := i) (n := 31) (by omega)
    have q1 := sp_sum_ge (f := q) (k := i) (n := 31) (by omega)
    have hpi := hp i (by omega)
    have hqi := hq i (by omega)
    have K1 := ih (i + 1) (by omega)
    rw [show sp_ad p q (i + 1) = sp_ad p q i + (p i - q i + (q i - p i)) from rfl] at K1
    generalize sp_ad p q i = s at K1 ⊢
    refine r_iload_4 d_X10_need_59 ?_
    refine r_push (v := nI 31) d_X10_need_61 ?_
    refine r_icmp_ge d_X10_need_63 (fun c63 => ?_) (fun c63 => ?_)
    · -- taken at 63
      have c63 : 31 ≤ i := (nI_leI (a := 31) (b := i) (by omega) (by omega)).mp c63
      exfalso; omega
    · -- not taken at 63
      have c63 : ¬ 31 ≤ i := fun zz9 => c63 ((nI_leI (a := 31) (b := i) (by omega) (by omega)).mpr zz9)
      refine r_iload_3 d_X10_need_66 ?_
      refine r_aload_0 d_X10_need_67 ?_
      refine r_get d_X10_need_68 s10_held rfl rfl ?_
      refine r_iload_4 d_X10_need_71 ?_
      refine r_iald d_X10_need_73 rfl (pm_ixN (by omega) (by omega)) ?_
      rw [hpi]
      refine r_aload_0 d_X10_need_74 ?_
      refine r_get d_X10_need_75 s10_shares rfl rfl ?_
      refine r_iload_4 d_X10_need_78 ?_
      refine r_iald d_X10_need_80 rfl (pm_ixN (by omega) (by omega)) ?_
      rw [hqi]
      refine r_icmp_le d_X10_need_81 (fun c81 => ?_) (fun c81 => ?_)
      · -- taken at 81
        have c81 : (p i) ≤ (q i) := (nI_leI (a := (p i)) (b := (q i)) (by omega) (by omega)).mp c81
        refine r_aload_0 d_X10_need_102 ?_
        refine r_get d_X10_need_103 s10_shares rfl rfl ?_
        refine r_iload_4 d_X10_need_106 ?_
        refine r_iald d_X10_need_108 rfl (pm_ixN (by omega) (by omega)) ?_
        rw [hqi]
        refine r_aload_0 d_X10_need_109 ?_
        refine r_get d_X10_need_110 s10_held rfl rfl ?_
        refine r_iload_4 d_X10_need_113 ?_
        refine r_iald d_X10_need_115 rfl (pm_ixN (by omega) (by omega)) ?_
        rw [hpi]
        refine r_isub d_X10_need_116 ?_
        rw [pk_sub (a := (q i)) (b := (p i)) (by omega)]
        refine r_iadd d_X10_need_117 ?_
        rw [nI_add]
        refine r_istore_3 d_X10_need_118 (Nat.le_of_ble_eq_true rfl) (fun w hw => by cases hw <;> rfl) ?_
        refine r_iinc_4 d_X10_need_119 (Nat.le_of_ble_eq_true rfl) (fun w hw => by cases hw <;> rfl) ?_
        rw [nI_1]
        refine r_goto d_X10_need_122 ?_
        first
        | (rw [show p i - q i + (q i - p i) = p i - q i by omega] at K1; exact K1)
        | (rw [show p i - q i + (q i - p i) = q i - p i by omega] at K1; exact K1)
      · -- not taken at 81
        have c81 : ¬ (p i) ≤ (q i) := fun zz9 => c81 ((nI_leI (a := (p i)) (b := (q i)) (by omega) (by omega)).mpr zz9)
        refine r_aload_0 d_X10_need_84 ?_
        refine r_get d_X10_need_85 s10_held rfl rfl ?_
        refine r_iload_4 d_X10_need_88 ?_
        refine r_iald d_X10_need_90 rfl (pm_ixN (by omega) (by omega)) ?_
        rw [hpi]
        refine r_aload_0 d_X10_need_91 ?_
        refine r_get d_X10_need_92 s10_shares rfl rfl ?_
        refine r_iload_4 d_X10_need_95 ?_
        refine r_iald d_X10_need_97 rfl (pm_ixN (by omega) (by omega)) ?_
        rw [hqi]
        refine r_isub d_X10_need_98 ?_
        rw [pk_sub (a := (p i)) (b := (q i)) (by omega)]
        refine r_goto d_X10_need_99 ?_
        refine r_iadd d_X10_need_117 ?_
        rw [nI_add]
        refine r_istore_3 d_X10_need_118 (Nat.le_of_ble_eq_true rfl) (fun w hw => by cases hw <;> rfl) ?_
        refine r_iinc_4 d_X10_need_119 (Nat.le_of_ble_eq_true rfl) (fun w hw => by cases hw <;> rfl) ?_
        rw [nI_1]
        refine r_goto d_X10_need_122 ?_
        first
        | (rw [show p i - q i + (q i - p i) = p i - q i by omega] at K1; exact K1)
        | (rw [show p i - q i + (q i - p i) = q i - p i by omega] at K1; exact K1)
def sp_need (q1 q2 : sp_Cs) : Nat := sp_ad (sp_ptw (sp_Wc q1)) (sp_ptw (sp_Wc q2)) 31
set_option maxRecDepth 10000 in
set_option maxHeartbeats 4000000 in
theorem c_X10_need {h : pm_H} {mi : Nat → Int32} {ml : Nat → Int64} {A : Nat → Nat → Int32} {B : Nat → Nat → Int64} {c o : Nat} {cn : Nat} (hcn : mi 1 = nI cn) (hn10 : cn ≤ 10) {q1 q2 : sp_Cs} (hcc : c < cn) (hoc : o < cn) (hs1 : m_Cs A c q1) (hs2 : m_Cs A o q2) : pm_Cl e_X10_need [.ref 44, .int (nI c), .int (nI o)] (pmM h mi ml A B) (fun v9 h1 => v9 = some (.int (if sp_need q1 q2 = 0 then -9 else nI ((9999999 + sp_need q1 q2) / sp_need q1 q2))) ∧ ∃ mx f g B1, h1 = pmM h mi mx (va_up (va_up A 66 f) 67 g) B1 ∧ m_ml ml mx) := by
  have a1 := sp_ptw_all (m_Cs_kk hs1)
  have a2 := sp_ptw_all (m_Cs_kk hs2)
  have a3 : sp_need q1 q2 ≤ 2000000 := Nat.le_trans sp_ad_le (by omega)
  refine pm_enter rfl (Nat.le_of_ble_eq_true rfl) ?_
  show pm_V e_X10_need 0 [some (.ref 44), some (.int (nI c)), some (.int (nI o)), none, none] [] (pmM h mi ml A B) (0, 0) _
  refine r_aload_0 d_X10_need_0 ?_
  refine r_iload_1 d_X10_need_1 ?_
  refine r_V1 d_X10_need_2 (c_X10_isCaster hcn hn10) rfl rfl rfl ⟨rfl, rfl⟩ (Nat.le_of_ble_eq_true rfl) ?_
  rw [pm_ci_of hcc (by omega)]
  show pm_V _ _ _ (.int (nI 1) :: _) _ _ _
  refine r_if_eq d_X10_need_5 (fun c5 => absurd c5 (by decide)) (fun c5 => ?_)
  clear c5
  refine r_aload_0 d_X10_need_8 ?_
  refine r_iload_2 d_X10_need_9 ?_
  refine r_V1 d_X10_need_10 (c_X10_isCaster hcn hn10) rfl rfl rfl ⟨rfl, rfl⟩ (Nat.le_of_ble_eq_true rfl) ?_
  rw [pm_ci_of hoc (by omega)]
  show pm_V _ _ _ (.int (nI 1) :: _) _ _ _
  refine r_if_ne d_X10_need_13 (fun c13 => ?_) (fun c13 => absurd c13 (by decide))
  clear c13
  refine r_aload_0 d_X10_need_18 ?_
  refine r_iload_1 d_X10_need_19 ?_
  refine r_V1p d_X10_need_20 (c_X10_setShares (A := A) (c := c) (w0 := fun _ => 0) (Hp := fun _ => 0) (Nx := fun _ => 0) (by omega) hs1) rfl rfl rfl ⟨rfl, rfl⟩ (Nat.le_of_ble_eq_true rfl) ?_
  rintro v9 h9 ⟨rfl, mx1, B1, rfl, hm1⟩
  show pm_V _ _ _ [] _ _ _
  refine r_push (v := nI 0) d_X10_need_23 ?_
  refine r_istore_3 d_X10_need_24 (Nat.le_of_ble_eq_true rfl) (fun w hw => by cases hw <;> rfl) ?_
  change pm_V _ _ _ _ (pmM h mi mx1 (va_up A 66 (pm_fc (fun j => nI (sp_ptw (sp_Wc q1) j)) (A 66) 31)) B1) _ _
  have eA : pmM h mi mx1 (va_up A 66 (pm_fc (fun j => nI (sp_ptw (sp_Wc q1) j)) (A 66) 31)) B1 = pmM h mi mx1 (va_up (va_up A 66 (pm_fc (fun j => nI (sp_ptw (sp_Wc q1) j)) (A 66) 31)) 67 (pm_fc ((va_up A 66 (pm_fc (fun j => nI (sp_ptw (sp_Wc q1) j)) (A 66) 31)) 66) ((va_up A 66 (pm_fc (fun j => nI (sp_ptw (sp_Wc q1) j)) (A 66) 31)) 67) 0)) B1 := by rw [pm_fc_0, m_aus]
  rw [eA]
  refine lh_X10_need (A := (va_up A 66 (pm_fc (fun j => nI (sp_ptw (sp_Wc q1) j)) (A 66) 31))) (B := B1) (ml := mx1) ?_ 31 0 (by omega)
  refine r_aload_0 d_X10_need_49 ?_
  refine r_iload_2 d_X10_need_50 ?_
  refine r_V1p d_X10_need_51 (c_X10_setShares (A := (va_up (va_up A 66 (pm_fc (fun j => nI (sp_ptw (sp_Wc q1) j)) (A 66) 31)) 67 (pm_fc ((va_up A 66 (pm_fc (fun j => nI (sp_ptw (sp_Wc q1) j)) (A 66) 31)) 66) ((va_up A 66 (pm_fc (fun j => nI (sp_ptw (sp_Wc q1) j)) (A 66) 31)) 67) 31))) (c := o) (w0 := fun _ => 0) (Hp := fun _ => 0) (Nx := fun _ => 0) (by omega) hs2) rfl rfl rfl ⟨rfl, rfl⟩ (Nat.le_of_ble_eq_true rfl) ?_
  rintro v9 h9 ⟨rfl, mx2, B2, rfl, hm2⟩
  show pm_V _ _ _ [] _ _ _
  refine r_push (v := nI 0) d_X10_need_54 ?_
  refine r_istore_3 d_X10_need_55 (Nat.le_of_ble_eq_true rfl) (fun w hw => by cases hw <;> rfl) ?_
  refine r_push (v := nI 0) d_X10_need_56 ?_
  refine r_istore_4 d_X10_need_57 (Nat.le_of_ble_eq_true rfl) (fun w hw => by cases hw <;> rfl) ?_
  refine lp_X10_need (A := va_up (va_up (va_up A 66 (pm_fc (fun j => nI (sp_ptw (sp_Wc q1) j)) (A 66) 31)) 67 (pm_fc ((va_up A 66 (pm_fc (fun j => nI (sp_ptw (sp_Wc q1) j)) (A 66) 31)) 66) ((va_up A 66 (pm_fc (fun j => nI (sp_ptw (sp_Wc q1) j)) (A 66) 31)) 67) 31)) 66 (pm_fc (fun j => nI (sp_ptw (sp_Wc q2) j)) ((va_up (va_up A 66 (pm_fc (fun j => nI (sp_ptw (sp_Wc q1) j)) (A 66) 31)) 67 (pm_fc ((va_up A 66 (pm_fc (fun j => nI (sp_ptw (sp_Wc q1) j)) (A 66) 31)) 66) ((va_up A 66 (pm_fc (fun j => nI (sp_ptw (sp_Wc q1) j)) (A 66) 31)) 67) 31)) 66) 31)) (p := sp_ptw (sp_Wc q1)) (q := sp_ptw (sp_Wc q2)) (fun j hj => ?_) (fun j hj => pm_fc_in (p := fun j => nI (sp_ptw (sp_Wc q2) j)) (f := (va_up (va_up A 66 (pm_fc (fun j => nI (sp_ptw (sp_Wc q1) j)) (A 66) 31)) 67 (pm_fc ((va_up A 66 (pm_fc (fun j => nI (sp_ptw (sp_Wc q1) j)) (A 66) 31)) 66) ((va_up A 66 (pm_fc (fun j => nI (sp_ptw (sp_Wc q1) j)) (A 66) 31)) 67) 31)) 66) hj) a1 a2 ?_ 31 0 (by omega)
  · exact (pm_fc_in (p := (va_up A 66 (pm_fc (fun j => nI (sp_ptw (sp_Wc q1) j)) (A 66) 31)) 66) (f := (va_up A 66 (pm_fc (fun j => nI (sp_ptw (sp_Wc q1) j)) (A 66) 31)) 67) hj).trans (pm_fc_in (p := fun j => nI (sp_ptw (sp_Wc q1) j)) (f := A 66) hj)
  · rw [show sp_ad (sp_ptw (sp_Wc q1)) (sp_ptw (sp_Wc q2)) 31 = sp_need q1 q2 from rfl, m_auc _ 66 67 _ _ _ (by decide)]
    refine r_iload_3 d_X10_need_125 ?_
    refine r_if_ne d_X10_need_126 (fun c126 => ?_) (fun c126 => ?_)
    · -- taken at 126
      have c126 : ¬ (sp_need q1 q2) = 0 := fun zz9 => c126 ((nI_eq (a := (sp_need q1 q2)) (b := 0) (by omega) (by omega)).mpr zz9)
      refine r_push (v := nI 9999999) d_X10_need_134 ?_
      refine r_iload_3 d_X10_need_136 ?_
      refine r_iadd d_X10_need_137 ?_
      rw [nI_add]
      refine r_iload_3 d_X10_need_138 ?_
      refine r_idiv d_X10_need_139 (nI_ne0 (n := (sp_need q1 q2)) (by omega) (by omega)) ?_
      rw [pk_div (a := (9999999 + (sp_need q1 q2))) (d := (sp_need q1 q2)) (by omega) (by omega) (by omega)]
      refine r_ireturn d_X10_need_140 ⟨_, rfl, rfl⟩ ?_
      first | exact ⟨by rw [if_neg c126], _, _, _, _, rfl, fun q h3 h4 => (hm2 q h3 h4).trans (hm1 q h3 h4)⟩ | exact ⟨by rw [if_pos c126], _, _, _, _, rfl, fun q h3 h4 => (hm2 q h3 h4).trans (hm1 q h3 h4)⟩
    · -- not taken at 126
      have c126 : (sp_need q1 q2) = 0 := (nI_eq (a := (sp_need q1 q2)) (b := 0) (by omega) (by omega)).mp c126
      refine r_push d_X10_need_129 ?_
      refine r_goto d_X10_need_131 ?_
      refine r_ireturn d_X10_need_140 ⟨_, rfl, rfl⟩ ?_
      first | exact ⟨by rw [if_neg c126], _, _, _, _, rfl, fun q h3 h4 => (hm2 q h3 h4).trans (hm1 q h3 h4)⟩ | exact ⟨by rw [if_pos c126], _, _, _, _, rfl, fun q h3 h4 => (hm2 q h3 h4).trans (hm1 q h3 h4)⟩
