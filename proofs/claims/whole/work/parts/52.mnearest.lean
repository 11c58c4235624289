theorem sp_nr_le {off : Nat → Nat} {M : Nat} : ∀ {i : Nat}, (∀ j, j ≤ i → off j ≤ M) → (sp_nr off i).2 ≤ M
  | 0, h => h 0 (by omega)
  | i + 1, h => by
    have ih := sp_nr_le (i := i) (fun j hj => h j (by omega))
    show (if off (i + 1) < (sp_nr off i).2 then (i + 1, off (i + 1)) else sp_nr off i).2 ≤ M
    split
    · exact h (i + 1) (by omega)
    · exact ih
set_option maxRecDepth 10000 in
set_option maxHeartbeats 4000000 in
theorem c_X10_nearest_bad {h : pm_H} {mi : Nat → Int32} {ml : Nat → Int64} {A : Nat → Nat → Int32} {B : Nat → Nat → Int64} {r : Int32} (hr : sp_in r 0 3 = false) : pm_Cv e_X10_nearest [.ref 44, .int r] (pmM h mi ml A B) (.int (-1)) (pmM h mi ml A B) := by
  refine pm_enter rfl (Nat.le_of_ble_eq_true rfl) ?_
  show pm_V e_X10_nearest 0 [some (.ref 44), some (.int r), none, none, none, none, none] [] (pmM h mi ml A B) (0, 0) _
  refine r_iload_1 d_X10_nearest_0 ?_
  refine r_S1 d_X10_nearest_1 c_X10_isRow ⟨rfl, rfl⟩ (Nat.le_of_ble_eq_true rfl) ?_
  rw [hr]
  show pm_V _ _ _ (.int (nI 0) :: _) _ _ _
  refine r_if_ne d_X10_nearest_4 (fun c4 => absurd (by decide) c4) (fun c4 => ?_)
  clear c4
  refine r_push d_X10_nearest_7 ?_
  refine r_ireturn d_X10_nearest_8 ⟨_, rfl, rfl⟩ ?_
  exact ⟨rfl, rfl⟩
set_option maxRecDepth 10000 in
set_option maxHeartbeats 4000000 in
theorem c_X10_nearest_empty {h : pm_H} {mi : Nat → Int32} {ml : Nat → Int64} {A : Nat → Nat → Int32} {B : Nat → Nat → Int64} {r : Int32} (hr : sp_in r 0 3 = true) (hcn : mi 1 = nI 0) : pm_Cv e_X10_nearest [.ref 44, .int r] (pmM h mi ml A B) (.int (-4)) (pmM h mi ml A B) := by
  refine pm_enter rfl (Nat.le_of_ble_eq_true rfl) ?_
  show pm_V e_X10_nearest 0 [some (.ref 44), some (.int r), none, none, none, none, none] [] (pmM h mi ml A B) (0, 0) _
  refine r_iload_1 d_X10_nearest_0 ?_
  refine r_S1 d_X10_nearest_1 c_X10_isRow ⟨rfl, rfl⟩ (Nat.le_of_ble_eq_true rfl) ?_
  rw [hr]
  show pm_V _ _ _ (.int (nI 1) :: _) _ _ _
  refine r_if_ne d_X10_nearest_4 (fun c4 => ?_) (fun c4 => absurd c4 (by decide))
  clear c4
  refine r_aload_0 d_X10_nearest_9 ?_
  refine r_get d_X10_nearest_10 s10_casters rfl rfl ?_
  rw [hcn]
  refine r_if_ne d_X10_nearest_13 (fun c13 => absurd (by decide) c13) (fun c13 => ?_)
  clear c13
  refine r_push d_X10_nearest_16 ?_
  refine r_ireturn d_X10_nearest_18 ⟨_, rfl, rfl⟩ ?_
  exact ⟨rfl, rfl⟩
set_option maxRecDepth 10000 in
set_option maxHeartbeats 4000000 in
theorem c_X10_nearest_no {h : pm_H} {mi : Nat → Int32} {ml : Nat → Int64} {A : Nat → Nat → Int32} {B : Nat → Nat → Int64} {r cn : Nat} (hr : r < 4) (hcn : mi 1 = nI cn) (hn10 : cn ≤ 10) (h0 : 0 < cn) (hz : A 62 r = -9) : pm_Cv e_X10_nearest [.ref 44, .int (nI r)] (pmM h mi ml A B) (.int (-3)) (m_meet h mi ml A B 1) := by
  refine pm_enter rfl (Nat.le_of_ble_eq_true rfl) ?_
  show pm_V e_X10_nearest 0 [some (.ref 44), some (.int (nI r)), none, none, none, none, none] [] (pmM h mi ml A B) (0, 0) _
  refine r_iload_1 d_X10_nearest_0 ?_
  refine r_S1 d_X10_nearest_1 (c_X10_isRowN (by omega)) ⟨rfl, rfl⟩ (Nat.le_of_ble_eq_true rfl) ?_
  refine r_if_ne d_X10_nearest_4 (fun c4 => ?_) (fun c4 => absurd c4 (by decide))
  clear c4
  refine r_aload_0 d_X10_nearest_9 ?_
  refine r_get d_X10_nearest_10 s10_casters rfl rfl ?_
  rw [hcn]
  refine r_if_ne d_X10_nearest_13 (fun c13 => ?_) (fun c13 => ?_)
  · -- taken at 13
    have c13 : ¬ cn = 0 := fun zz9 => c13 ((nI_eq (a := cn) (b := 0) (by omega) (by omega)).mpr zz9)
    refine r_aload_0 d_X10_nearest_19 ?_
    refine r_iload_1 d_X10_nearest_20 ?_
    refine r_V1 d_X10_nearest_21 (c_X10_looked_none hr hz) rfl rfl rfl ⟨rfl, rfl⟩ (Nat.le_of_ble_eq_true rfl) ?_
    refine r_istore_2 d_X10_nearest_24 (Nat.le_of_ble_eq_true rfl) (fun w hw => by cases hw <;> rfl) ?_
    refine r_iload_2 d_X10_nearest_25 ?_
    refine r_if_ge d_X10_nearest_26 (fun c26 => ?_) (fun c26 => ?_)
    · -- taken at 26
      exact absurd c26 (by decide)
    · -- not taken at 26
      refine r_iload_2 d_X10_nearest_29 ?_
      refine r_ireturn d_X10_nearest_30 ⟨_, rfl, rfl⟩ ?_
      exact ⟨rfl, rfl⟩
  · -- not taken at 13
    have c13 : cn = 0 := (nI_eq (a := cn) (b := 0) (by omega) (by omega)).mp c13
    exfalso; omega
set_option maxRecDepth 10000 in
set_option maxHeartbeats 4000000 in
theorem c_X10_nearest_nought {h : pm_H} {mi : Nat → Int32} {ml : Nat → Int64} {A : Nat → Nat → Int32} {B : Nat → Nat → Int64} {r z : Nat} (hr : r < 4) (hz : A 62 r = nI z) (hz64 : z ≤ 64) {cn : Nat} (hcn : mi 1 = nI cn) (hn10 : cn ≤ 10) (h0 : 0 < cn) (hct : decide (0 < (sp_cn (fun q => A 63 (64 * r + q)) z)) = false) : pm_Cv e_X10_nearest [.ref 44, .int (nI r)] (pmM h mi ml A B) (.int (-3)) (m_meet h (upd mi 3 (nI (sp_cn (fun q => A 63 (64 * r + q)) z))) ml (va_up A 65 (pm_fc (fun j => nI (sp_cv (fun q => A 63 (64 * r + q)) j z)) (A 65) 31)) B 4) := by
  refine pm_enter rfl (Nat.le_of_ble_eq_true rfl) ?_
  show pm_V e_X10_nearest 0 [some (.ref 44), some (.int (nI r)), none, none, none, none, none] [] (pmM h mi ml A B) (0, 0) _
  refine r_iload_1 d_X10_nearest_0 ?_
  refine r_S1 d_X10_nearest_1 (c_X10_isRowN (by omega)) ⟨rfl, rfl⟩ (Nat.le_of_ble_eq_true rfl) ?_
  refine r_if_ne d_X10_nearest_4 (fun c4 => ?_) (fun c4 => absurd c4 (by decide))
  clear c4
  refine r_aload_0 d_X10_nearest_9 ?_
  refine r_get d_X10_nearest_10 s10_casters rfl rfl ?_
  rw [hcn]
  refine r_if_ne d_X10_nearest_13 (fun c13 => ?_) (fun c13 => ?_)
  · -- taken at 13
    have c13 : ¬ cn = 0 := fun zz9 => c13 ((nI_eq (a := cn) (b := 0) (by omega) (by omega)).mpr zz9)
    refine r_aload_0 d_X10_nearest_19 ?_
    refine r_iload_1 d_X10_nearest_20 ?_
    refine r_V1 d_X10_nearest_21 (c_X10_looked hr hz hz64) rfl rfl rfl ⟨rfl, rfl⟩ (Nat.le_of_ble_eq_true rfl) ?_
    show pm_V _ _ _ (.int (nI 0) :: _) _ _ _
    refine r_istore_2 d_X10_nearest_24 (Nat.le_of_ble_eq_true rfl) (fun w hw => by cases hw <;> rfl) ?_
    refine r_iload_2 d_X10_nearest_25 ?_
    refine r_if_ge d_X10_nearest_26 (fun c26 => ?_) (fun c26 => absurd (by decide) c26)
    clear c26
    refine r_aload_0 d_X10_nearest_31 ?_
    refine r_iload_1 d_X10_nearest_32 ?_
    refine r_V1 d_X10_nearest_33 (c_X10_counts hr hz hz64) rfl rfl rfl ⟨rfl, rfl⟩ (Nat.le_of_ble_eq_true rfl) ?_
    rw [hct]
    show pm_V _ _ _ (.int (nI 0) :: _) _ _ _
    refine r_if_ne d_X10_nearest_36 (fun c36 => absurd (by decide) c36) (fun c36 => ?_)
    clear c36
    refine r_aload_0 d_X10_nearest_39 ?_
    refine r_push (v := nI 4) d_X10_nearest_40 ?_
    refine r_V1 d_X10_nearest_41 (c_X10_meets (w := 4) (by decide)) rfl rfl rfl ⟨rfl, rfl⟩ (Nat.le_of_ble_eq_true rfl) ?_
    refine r_ireturn d_X10_nearest_44 ⟨_, rfl, rfl⟩ ?_
    exact ⟨rfl, rfl⟩
  · -- not taken at 13
    have c13 : cn = 0 := (nI_eq (a := cn) (b := 0) (by omega) (by omega)).mp c13
    exfalso; omega
set_option maxRecDepth 10000 in
set_option maxHeartbeats 4000000 in
theorem lp_X10_nearest {h : pm_H} {mi : Nat → Int32} {ml : Nat → Int64} {A : Nat → Nat → Int32} {B : Nat → Nat → Int64} {r cn ct : Nat} {C : Nat → sp_Cs} {cv off : Nat → Nat} (hCC : m_CC mi A cn C) (ht : m_tm mi A cv ct) (ho : off = fun j => sp_off cv ct (C j)) {F : Option Value → pm_H → Prop} {b9 : Nat × Nat} (K : ∀ mx g B1 i o6, i + 1 = cn → m_ml ml mx → pm_V e_X10_nearest 110 [some (.ref 44), some (.int (nI r)), some (.int (nI 0)), some (.int (nI (sp_nr off i).1)), some (.int (nI (sp_nr off i).2)), some (.int (nI (i + 1))), o6] [] (pmM h mi mx (va_up A 66 g) B1) b9 F) : ∀ (d i : Nat) (mx : Nat → Int64) (g : Nat → Int32) (B1 : Nat → Nat → Int64) (o6 : Option Value), i + 1 + d = cn → m_ml ml mx → pm_V e_X10_nearest 57 [some (.ref 44), some (.int (nI r)), some (.int (nI 0)), some (.int (nI (sp_nr off i).1)), some (.int (nI (sp_nr off i).2)), some (.int (nI (i + 1))), o6] [] (pmM h mi mx (va_up A 66 g) B1) b9 F := by
  have hCC0 := hCC
  obtain ⟨hcn, hn10, hC⟩ := hCC
  intro d
  induction d with
  | zero =>
    intro i mx g B1 o6 hid hm
    have hcn2 : mi 1 = nI (i + 1) := by rw [hcn, ← hid]
    refine r_iload_5 d_X10_nearest_57 ?_
    refine r_aload_0 d_X10_nearest_59 ?_
    refine r_get d_X10_nearest_60 s10_casters rfl rfl ?_
    rw [hcn2]
    refine r_icmp_ge d_X10_nearest_63 (fun c63 => ?_) (fun c63 => ?_)
    · -- taken at 63
      have c63 : (i + 1) ≤ (i + 1) := (nI_leI (a := (i + 1)) (b := (i + 1)) (by omega) (by omega)).mp c63
      exact K _ _ _ _ _ hid hm
    · -- not taken at 63
      have c63 : ¬ (i + 1) ≤ (i + 1) := fun zz9 => c63 ((nI_leI (a := (i + 1)) (b := (i + 1)) (by omega) (by omega)).mpr zz9)
      exfalso; omega
  | succ d ih =>
    intro i mx g B1 o6 hid hm
    have hle : ∀ j, j < cn → off j ≤ 2000000 := fun j hj => by
      rw [ho]; exact sp_off_le (m_Cs_kk (hC j hj)) ht.2.1 ht.2.2.2.1
    have hl1 := sp_nr_le (off := off) (M := 2000000) (i := i) (fun j hj => hle j (by omega))
    have hl2 := hle (i + 1) (by omega)
    have hnr : sp_nr off (i + 1) = if off (i + 1) < (sp_nr off i).2 then (i + 1, off (i + 1)) else sp_nr off i := rfl
    have K1 := fun mx g B1 o6 hm => ih (i + 1) mx g B1 o6 (by omega) hm
    have eo : sp_off cv ct (C (i + 1)) = off (i + 1) := by rw [ho]
    rw [hnr] at K1
    clear ih hnr
    generalize sp_nr off i = s at hl1 K1 ⊢
    generalize off (i + 1) = w9 at hl2 K1 eo
    refine r_iload_5 d_X10_nearest_57 ?_
    refine r_aload_0 d_X10_nearest_59 ?_
    refine r_get d_X10_nearest_60 s10_casters rfl rfl ?_
    rw [hcn]
    refine r_icmp_ge d_X10_nearest_63 (fun c63 => ?_) (fun c63 => ?_)
    · -- taken at 63
      have c63 : cn ≤ (i + 1) := (nI_leI (a := cn) (b := (i + 1)) (by omega) (by omega)).mp c63
      exfalso; omega
    · -- not taken at 63
      have c63 : ¬ cn ≤ (i + 1) := fun zz9 => c63 ((nI_leI (a := cn) (b := (i + 1)) (by omega) (by omega)).mpr zz9)
      refine r_aload_0 d_X10_nearest_66 ?_
      refine r_iload_5 d_X10_nearest_67 ?_
      refine r_V1p d_X10_nearest_69 (c_X10_offOf (A := va_up A 66 g) (q := C (i + 1)) (c := i + 1) (by omega) (hC (i + 1) (by omega)) ht) rfl rfl rfl ⟨rfl, rfl⟩ (Nat.le_of_ble_eq_true rfl) ?_
      rintro v9 h9 ⟨rfl, my, g2, B2, rfl, hmm⟩
      rw [eo, m_aua]
      show pm_V _ _ _ (.int (nI w9) :: _) _ _ _
      refine r_istore_6 d_X10_nearest_72 (Nat.le_of_ble_eq_true rfl) (fun w hw => by cases hw <;> rfl) ?_
      refine r_iload_6 d_X10_nearest_74 ?_
      refine r_iload_4 d_X10_nearest_76 ?_
      refine r_icmp_ge d_X10_nearest_78 (fun c78 => ?_) (fun c78 => ?_)
      · -- taken at 78
        have c78 : s.2 ≤ w9 := (nI_leI (a := s.2) (b := w9) (by omega) (by omega)).mp c78
        refine r_iload_3 d_X10_nearest_86 ?_
        refine r_istore_3 d_X10_nearest_87 (Nat.le_of_ble_eq_true rfl) (fun w hw => by cases hw <;> rfl) ?_
        refine r_iload_6 d_X10_nearest_88 ?_
        refine r_iload_4 d_X10_nearest_90 ?_
        refine r_icmp_ge d_X10_nearest_92 (fun c92 => ?_) (fun c92 => ?_)
        · -- taken at 92
          have c92 : s.2 ≤ w9 := (nI_leI (a := s.2) (b := w9) (by omega) (by omega)).mp c92
          refine r_iload_4 d_X10_nearest_100 ?_
          refine r_istore_4 d_X10_nearest_102 (Nat.le_of_ble_eq_true rfl) (fun w hw => by cases hw <;> rfl) ?_
          refine r_iinc_5 d_X10_nearest_104 (Nat.le_of_ble_eq_true rfl) (fun w hw => by cases hw <;> rfl) ?_
          rw [nI_1]
          refine r_goto d_X10_nearest_107 ?_
          first
          | (rw [if_pos (by omega)] at K1; exact K1 my g2 B2 _ (fun q h3 h4 => (hmm q h3 h4).trans (hm q h3 h4)))
          | (rw [if_neg (by omega)] at K1; exact K1 my g2 B2 _ (fun q h3 h4 => (hmm q h3 h4).trans (hm q h3 h4)))
          | (exfalso; omega)
        · -- not taken at 92
          have c92 : ¬ s.2 ≤ w9 := fun zz9 => c92 ((nI_leI (a := s.2) (b := w9) (by omega) (by omega)).mpr zz9)
          refine r_iload_6 d_X10_nearest_95 ?_
          refine r_goto d_X10_nearest_97 ?_
          refine r_istore_4 d_X10_nearest_102 (Nat.le_of_ble_eq_true rfl) (fun w hw => by cases hw <;> rfl) ?_
          refine r_iinc_5 d_X10_nearest_104 (Nat.le_of_ble_eq_true rfl) (fun w hw => by cases hw <;> rfl) ?_
          rw [nI_1]
          refine r_goto d_X10_nearest_107 ?_
          first
          | (rw [if_pos (by omega)] at K1; exact K1 my g2 B2 _ (fun q h3 h4 => (hmm q h3 h4).trans (hm q h3 h4)))
          | (rw [if_neg (by omega)] at K1; exact K1 my g2 B2 _ (fun q h3 h4 => (hmm q h3 h4).trans (hm q h3 h4)))
          | (exfalso; omega)
      · -- not taken at 78
        have c78 : ¬ s.2 ≤ w9 := fun zz9 => c78 ((nI_leI (a := s.2) (b := w9) (by omega) (by omega)).mpr zz9)
        refine r_iload_5 d_X10_nearest_81 ?_
        refine r_goto d_X10_nearest_83 ?_
        refine r_istore_3 d_X10_nearest_87 (Nat.le_of_ble_eq_true rfl) (fun w hw => by cases hw <;> rfl) ?_
        refine r_iload_6 d_X10_nearest_88 ?_
        refine r_iload_4 d_X10_nearest_90 ?_
        refine r_icmp_ge d_X10_nearest_92 (fun c92 => ?_) (fun c92 => ?_)
        · -- taken at 92
          have c92 : s.2 ≤ w9 := (nI_leI (a := s.2) (b := w9) (by omega) (by omega)).mp c92
          refine r_iload_4 d_X10_nearest_100 ?_
          refine r_istore_4 d_X10_nearest_102 (Nat.le_of_ble_eq_true rfl) (fun w hw => by cases hw <;> rfl) ?_
          refine r_iinc_5 d_X10_nearest_104 (Nat.le_of_ble_eq_true rfl) (fun w hw => by cases hw <;> rfl) ?_
          rw [nI_1]
          refine r_goto d_X10_nearest_107 ?_
          first
          | (rw [if_pos (by omega)] at K1; exact K1 my g2 B2 _ (fun q h3 h4 => (hmm q h3 h4).trans (hm q h3 h4)))
          | (rw [if_neg (by omega)] at K1; exact K1 my g2 B2 _ (fun q h3 h4 => (hmm q h3 h4).trans (hm q h3 h4)))
          | (exfalso; omega)
        · -- not taken at 92
          have c92 : ¬ s.2 ≤ w9 := fun zz9 => c92 ((nI_leI (a := s.2) (b := w9) (by omega) (by omega)).mpr zz9)
          refine r_iload_6 d_X10_nearest_95 ?_
          refine r_goto d_X10_nearest_97 ?_
          refine r_istore_4 d_X10_nearest_102 (Nat.le_of_ble_eq_true rfl) (fun w hw => by cases hw <;> rfl) ?_
          refine r_iinc_5 d_X10_nearest_104 (Nat.le_of_ble_eq_true rfl) (fun w hw => by cases hw <;> rfl) ?_
          rw [nI_1]
          refine r_goto d_X10_nearest_107 ?_
          first
          | (rw [if_pos (by omega)] at K1; exact K1 my g2 B2 _ (fun q h3 h4 => (hmm q h3 h4).trans (hm q h3 h4)))
          | (rw [if_neg (by omega)] at K1; exact K1 my g2 B2 _ (fun q h3 h4 => (hmm q h3 h4).trans (hm q h3 h4)))
          | (exfalso; omega)
set_option maxRecDepth 10000 in
set_option maxHeartbeats 4000000 in
theorem c_X10_nearest {h : pm_H} {mi : Nat → Int32} {ml : Nat → Int64} {A : Nat → Nat → Int32} {B : Nat → Nat → Int64} {r z : Nat} (hr : r < 4) (hz : A 62 r = nI z) (hz64 : z ≤ 64) {cn : Nat} {C : Nat → sp_Cs} (hCC : m_CC mi A cn C) (h0 : 0 < cn) (hct : decide (0 < (sp_cn (fun q => A 63 (64 * r + q)) z)) = true) : pm_Cl e_X10_nearest [.ref 44, .int (nI r)] (pmM h mi ml A B) (fun v9 h1 => v9 = some (.int (nI (sp_nr (fun j => sp_off (fun j => sp_cv (fun q => A 63 (64 * r + q)) j z) (sp_cn (fun q => A 63 (64 * r + q)) z) (C j)) (cn - 1)).1)) ∧ ∃ x mx f g B1, h1 = pmM h (upd mi 3 x) mx (va_up (va_up A 65 f) 66 g) B1 ∧ m_ml ml mx) := by
  have hCC0 := hCC
  obtain ⟨hcn, hn10, hC⟩ := hCC
  have ht := m_tm_of (mi := mi) (A := A) (r := r) hz64 (of_decide_eq_true hct)
  refine pm_enter rfl (Nat.le_of_ble_eq_true rfl) ?_
  show pm_V e_X10_nearest 0 [some (.ref 44), some (.int (nI r)), none, none, none, none, none] [] (pmM h mi ml A B) (0, 0) _
  refine r_iload_1 d_X10_nearest_0 ?_
  refine r_S1 d_X10_nearest_1 (c_X10_isRowN (by omega)) ⟨rfl, rfl⟩ (Nat.le_of_ble_eq_true rfl) ?_
  refine r_if_ne d_X10_nearest_4 (fun c4 => ?_) (fun c4 => absurd c4 (by decide))
  clear c4
  refine r_aload_0 d_X10_nearest_9 ?_
  refine r_get d_X10_nearest_10 s10_casters rfl rfl ?_
  rw [hcn]
  refine r_if_ne d_X10_nearest_13 (fun c13 => ?_) (fun c13 => ?_)
  · -- taken at 13
    have c13 : ¬ cn = 0 := fun zz9 => c13 ((nI_eq (a := cn) (b := 0) (by omega) (by omega)).mpr zz9)
    refine r_aload_0 d_X10_nearest_19 ?_
    refine r_iload_1 d_X10_nearest_20 ?_
    refine r_V1 d_X10_nearest_21 (c_X10_looked hr hz hz64) rfl rfl rfl ⟨rfl, rfl⟩ (Nat.le_of_ble_eq_true rfl) ?_
    show pm_V _ _ _ (.int (nI 0) :: _) _ _ _
    refine r_istore_2 d_X10_nearest_24 (Nat.le_of_ble_eq_true rfl) (fun w hw => by cases hw <;> rfl) ?_
    refine r_iload_2 d_X10_nearest_25 ?_
    refine r_if_ge d_X10_nearest_26 (fun c26 => ?_) (fun c26 => absurd (by decide) c26)
    clear c26
    refine r_aload_0 d_X10_nearest_31 ?_
    refine r_iload_1 d_X10_nearest_32 ?_
    refine r_V1 d_X10_nearest_33 (c_X10_counts hr hz hz64) rfl rfl rfl ⟨rfl, rfl⟩ (Nat.le_of_ble_eq_true rfl) ?_
    rw [hct]
    show pm_V _ _ _ (.int (nI 1) :: _) _ _ _
    refine r_if_ne d_X10_nearest_36 (fun c36 => ?_) (fun c36 => absurd c36 (by decide))
    clear c36
    refine r_push (v := nI 0) d_X10_nearest_45 ?_
    refine r_istore_3 d_X10_nearest_46 (Nat.le_of_ble_eq_true rfl) (fun w hw => by cases hw <;> rfl) ?_
    refine r_aload_0 d_X10_nearest_47 ?_
    refine r_push (v := nI 0) d_X10_nearest_48 ?_
    refine r_V1p d_X10_nearest_49 (c_X10_offOf (A := (va_up A 65 (pm_fc (fun j => nI (sp_cv (fun q => A 63 (64 * r + q)) j z)) (A 65) 31))) (q := C 0) (c := 0) (by omega) (hC 0 h0) ht) rfl rfl rfl ⟨rfl, rfl⟩ (Nat.le_of_ble_eq_true rfl) ?_
    rintro v9 h9 ⟨rfl, my, g2, B2, rfl, hmm⟩
    show pm_V _ _ _ (.int (nI (sp_off (fun j => sp_cv (fun q => A 63 (64 * r + q)) j z) (sp_cn (fun q => A 63 (64 * r + q)) z) (C 0))) :: _) _ _ _
    refine r_istore_4 d_X10_nearest_52 (Nat.le_of_ble_eq_true rfl) (fun w hw => by cases hw <;> rfl) ?_
    refine r_push (v := nI 1) d_X10_nearest_54 ?_
    refine r_istore_5 d_X10_nearest_55 (Nat.le_of_ble_eq_true rfl) (fun w hw => by cases hw <;> rfl) ?_
    refine lp_X10_nearest (B := B) (mi := upd mi 3 (nI (sp_cn (fun q => A 63 (64 * r + q)) z))) (ml := my) (A := (va_up A 65 (pm_fc (fun j => nI (sp_cv (fun q => A 63 (64 * r + q)) j z)) (A 65) 31))) (cv := (fun j => sp_cv (fun q => A 63 (64 * r + q)) j z)) (ct := (sp_cn (fun q => A 63 (64 * r + q)) z)) (C := C) (off := (fun j => sp_off (fun j => sp_cv (fun q => A 63 (64 * r + q)) j z) (sp_cn (fun q => A 63 (64 * r + q)) z) (C j))) hCC0 ht rfl (fun mx g B1 i o6 hid hm => ?_) (cn - 1) 0 my g2 B2 none (by omega) (fun q _ _ => rfl)
    rw [show cn - 1 = i by omega]
    refine r_iload_3 d_X10_nearest_110 ?_
    refine r_ireturn d_X10_nearest_111 ⟨_, rfl, rfl⟩ ?_
    exact ⟨rfl, _, mx, _, g, B1, rfl, fun q h3 h4 => (hm q h3 h4).trans (hmm q h3 h4)⟩
  · -- not taken at 13
    have c13 : cn = 0 := (nI_eq (a := cn) (b := 0) (by omega) (by omega)).mp c13
    exfalso; omega
