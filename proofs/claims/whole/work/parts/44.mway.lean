/-! the reference's way: the distances -/
def m_f0 (y : Nat) (g : Nat → Nat) (i : Nat) : Nat → Nat := fun j => if j < i then (if j = y then 0 else 1000) else g j
theorem m_f0_s (y : Nat) (g : Nat → Nat) (i : Nat) : va_up (m_f0 y g i) i (if i = y then 0 else 1000) = m_f0 y g (i + 1) := by
  funext j
  simp only [va_up, m_f0]
  by_cases e : j = i
  · subst e; rw [if_pos rfl, if_pos (show j < j + 1 by omega)]
  · rw [if_neg e]
    by_cases e2 : j < i
    · rw [if_pos e2, if_pos (show j < i + 1 by omega)]
    · rw [if_neg e2, if_neg (show ¬ j < i + 1 by omega)]
theorem m_f0_inv {lt y : Nat} {g : Nat → Nat} (hy : y < 64) : m_inv lt y (m_f0 y g 64) := by
  have e1 : ∀ j, j < 64 → j ≠ y → m_f0 y g 64 j = 1000 := fun j hj hn => by simp only [m_f0]; rw [if_pos hj, if_neg hn]
  have e2 : m_f0 y g 64 y = 0 := by unfold m_f0; rw [if_pos hy, if_pos rfl]
  refine ⟨fun j hj => ?_, e2, fun j hj hl => ?_⟩
  · by_cases e : j = y
    · rw [e, e2]; omega
    · rw [e1 j hj e]; omega
  · by_cases e : j = y
    · exact ⟨[], by rw [e, e2]; rfl, e⟩
    · rw [e1 j hj e] at hl; omega
def m_Z (lt y : Nat) (f0 : Nat → Nat) (k b g : Nat) (fr : Nat → Nat) : Prop := m_inv lt y fr ∧ ((g = 1 ∧ sp_sum fr 64 < sp_sum f0 64) ∨ (g = 0 ∧ fr = f0 ∧ ∀ j, j < 64 → ∀ a, a < 9 → lt / 2 ^ a % 2 = 1 → (j < k ∨ (j = k ∧ a < b)) → fr j ≤ fr (sp_aft j a) + 1))
theorem m_Z_g {lt y : Nat} {f0 fr : Nat → Nat} {k b g : Nat} (h : m_Z lt y f0 k b g fr) : g < 2 := by
  obtain ⟨-, ⟨h, -⟩ | ⟨h, -⟩⟩ := h <;> omega
theorem m_Z_n {lt y : Nat} {f0 fr : Nat → Nat} {k g : Nat} (h : m_Z lt y f0 k 9 g fr) : m_Z lt y f0 (k + 1) 0 g fr := by
  obtain ⟨h1, h | ⟨h2, h3, h4⟩⟩ := h
  · exact ⟨h1, Or.inl h⟩
  · exact ⟨h1, Or.inr ⟨h2, h3, fun j hj a ha hb hc => h4 j hj a ha hb (by omega)⟩⟩
theorem m_Z_k {lt y : Nat} {f0 fr : Nat → Nat} {k b g : Nat} (h : m_Z lt y f0 k b g fr) (hc : lt / 2 ^ b % 2 = 1 → fr k ≤ fr (sp_aft k b) + 1) : m_Z lt y f0 k (b + 1) g fr := by
  obtain ⟨h1, h | ⟨h2, h3, h4⟩⟩ := h
  · exact ⟨h1, Or.inl h⟩
  · refine ⟨h1, Or.inr ⟨h2, h3, fun j hj a ha hb hd => ?_⟩⟩
    by_cases e : j = k ∧ a = b
    · obtain ⟨rfl, rfl⟩ := e; exact hc hb
    · exact h4 j hj a ha hb (by omega)
theorem m_Z_u {lt y : Nat} {f0 fr : Nat → Nat} {k b g : Nat} (h : m_Z lt y f0 k b g fr) (hk : k < 64) (hb : b < 9) (hl : lt / 2 ^ b % 2 = 1) (hc : fr (sp_aft k b) + 1 < fr k) : m_Z lt y f0 k (b + 1) 1 (va_up fr k (fr (sp_aft k b) + 1)) := by
  obtain ⟨h1, h⟩ := h
  refine ⟨m_inv_up h1 k b hk hb hl hc, Or.inl ⟨rfl, ?_⟩⟩
  have := sp_sum_up (f := fr) (k := k) (v := fr (sp_aft k b) + 1) (n := 64) hk
  rcases h with ⟨-, h⟩ | ⟨-, h, -⟩
  · omega
  · rw [← h]; omega
set_option maxRecDepth 10000 in
set_option maxHeartbeats 4000000 in
theorem c_X10_way_1 {h : pm_H} {mi : Nat → Int32} {ml : Nat → Int64} {A : Nat → Nat → Int32} {B : Nat → Nat → Int64} {x y w9 : Int32} (hx : sp_in x 0 63 = false) : pm_Cv e_X10_way [.ref 44, .int x, .int y, .int w9] (pmM h mi ml A B) (.int (-1)) (pmM h mi ml A B) := by
  refine pm_enter rfl (Nat.le_of_ble_eq_true rfl) ?_
  show pm_V e_X10_way 0 [some (.ref 44), some (.int x), some (.int y), some (.int w9), none, none, none, none] [] (pmM h mi ml A B) (0, 0) _
  refine r_iload_1 d_X10_way_0 ?_
  refine r_push d_X10_way_1 ?_
  refine r_push d_X10_way_2 ?_
  refine r_S3 d_X10_way_4 c_X10_in ⟨rfl, rfl⟩ (Nat.le_of_ble_eq_true rfl) ?_
  rw [hx]
  show pm_V _ _ _ (.int (nI 0) :: _) _ _ _
  refine r_if_eq d_X10_way_7 (fun c7 => ?_) (fun c7 => absurd (by decide) c7)
  clear c7
  refine r_push d_X10_way_31 ?_
  refine r_ireturn d_X10_way_32 ⟨_, rfl, rfl⟩ ?_
  exact ⟨rfl, rfl⟩
set_option maxRecDepth 10000 in
set_option maxHeartbeats 4000000 in
theorem c_X10_way_2 {h : pm_H} {mi : Nat → Int32} {ml : Nat → Int64} {A : Nat → Nat → Int32} {B : Nat → Nat → Int64} {x y w9 : Int32} (hx : sp_in x 0 63 = true) (hy : sp_in y 0 63 = false) : pm_Cv e_X10_way [.ref 44, .int x, .int y, .int w9] (pmM h mi ml A B) (.int (-1)) (pmM h mi ml A B) := by
  refine pm_enter rfl (Nat.le_of_ble_eq_true rfl) ?_
  show pm_V e_X10_way 0 [some (.ref 44), some (.int x), some (.int y), some (.int w9), none, none, none, none] [] (pmM h mi ml A B) (0, 0) _
  refine r_iload_1 d_X10_way_0 ?_
  refine r_push d_X10_way_1 ?_
  refine r_push d_X10_way_2 ?_
  refine r_S3 d_X10_way_4 c_X10_in ⟨rfl, rfl⟩ (Nat.le_of_ble_eq_true rfl) ?_
  rw [hx]
  show pm_V _ _ _ (.int (nI 1) :: _) _ _ _
  refine r_if_eq d_X10_way_7 (fun c7 => absurd c7 (by decide)) (fun c7 => ?_)
  clear c7
  refine r_iload_2 d_X10_way_10 ?_
  refine r_push d_X10_way_11 ?_
  refine r_push d_X10_way_12 ?_
  refine r_S3 d_X10_way_14 c_X10_in ⟨rfl, rfl⟩ (Nat.le_of_ble_eq_true rfl) ?_
  rw [hy]
  show pm_V _ _ _ (.int (nI 0) :: _) _ _ _
  refine r_if_eq d_X10_way_17 (fun c17 => ?_) (fun c17 => absurd (by decide) c17)
  clear c17
  refine r_push d_X10_way_31 ?_
  refine r_ireturn d_X10_way_32 ⟨_, rfl, rfl⟩ ?_
  exact ⟨rfl, rfl⟩
set_option maxRecDepth 10000 in
set_option maxHeartbeats 4000000 in
theorem c_X10_way_3 {h : pm_H} {mi : Nat → Int32} {ml : Nat → Int64} {A : Nat → Nat → Int32} {B : Nat → Nat → Int64} {x y w9 : Int32} (hx : sp_in x 0 63 = true) (hy : sp_in y 0 63 = true) (hl : sp_in w9 0 511 = false) : pm_Cv e_X10_way [.ref 44, .int x, .int y, .int w9] (pmM h mi ml A B) (.int (-1)) (pmM h mi ml A B) := by
  refine pm_enter rfl (Nat.le_of_ble_eq_true rfl) ?_
  show pm_V e_X10_way 0 [some (.ref 44), some (.int x), some (.int y), some (.int w9), none, none, none, none] [] (pmM h mi ml A B) (0, 0) _
  refine r_iload_1 d_X10_way_0 ?_
  refine r_push d_X10_way_1 ?_
  refine r_push d_X10_way_2 ?_
  refine r_S3 d_X10_way_4 c_X10_in ⟨rfl, rfl⟩ (Nat.le_of_ble_eq_true rfl) ?_
  rw [hx]
  show pm_V _ _ _ (.int (nI 1) :: _) _ _ _
  refine r_if_eq d_X10_way_7 (fun c7 => absurd c7 (by decide)) (fun c7 => ?_)
  clear c7
  refine r_iload_2 d_X10_way_10 ?_
  refine r_push d_X10_way_11 ?_
  refine r_push d_X10_way_12 ?_
  refine r_S3 d_X10_way_14 c_X10_in ⟨rfl, rfl⟩ (Nat.le_of_ble_eq_true rfl) ?_
  rw [hy]
  show pm_V _ _ _ (.int (nI 1) :: _) _ _ _
  refine r_if_eq d_X10_way_17 (fun c17 => absurd c17 (by decide)) (fun c17 => ?_)
  clear c17
  refine r_iload_3 d_X10_way_20 ?_
  refine r_push d_X10_way_21 ?_
  refine r_push d_X10_way_22 ?_
  refine r_S3 d_X10_way_25 c_X10_in ⟨rfl, rfl⟩ (Nat.le_of_ble_eq_true rfl) ?_
  rw [hl]
  show pm_V _ _ _ (.int (nI 0) :: _) _ _ _
  refine r_if_ne d_X10_way_28 (fun c28 => absurd (by decide) c28) (fun c28 => ?_)
  clear c28
  refine r_push d_X10_way_31 ?_
  refine r_ireturn d_X10_way_32 ⟨_, rfl, rfl⟩ ?_
  exact ⟨rfl, rfl⟩
set_option maxRecDepth 10000 in
set_option maxHeartbeats 4000000 in
theorem l0_X10_way {h : pm_H} {mi : Nat → Int32} {ml : Nat → Int64} {A : Nat → Nat → Int32} {B : Nat → Nat → Int64} {x y lt : Nat} (hx : x < 64) (hy : y < 64) (hlt : lt < 512) {g : Nat → Nat} {F : Option Value → pm_H → Prop} {b9 : Nat × Nat} (K : pm_V e_X10_way 69 [some (.ref 44), some (.int (nI x)), some (.int (nI y)), some (.int (nI lt)), some (.int (nI 64)), none, none, none] [] (pmM h mi ml (va_up A 60 (fun j => nI (m_f0 y g 64 j))) B) b9 F) : ∀ (d i : Nat), i + d = 64 → pm_V e_X10_way 36 [some (.ref 44), some (.int (nI x)), some (.int (nI y)), some (.int (nI lt)), some (.int (nI i)), none, none, none] [] (pmM h mi ml (va_up A 60 (fun j => nI (m_f0 y g i j))) B) b9 F := by
  intro d
  induction d with
  | zero =>
    intro i hid
    obtain rfl : i = 64 := by omega
    refine r_iload_4 d_X10_way_36 ?_
    refine r_push (v := nI 64) d_X10_way_38 ?_
    refine r_icmp_ge d_X10_way_40 (fun c40 => ?_) (fun c40 => absurd (by decide) c40)
    clear c40
    exact K
  | succ d ih =>
    intro i hid
    have K1 := ih (i + 1) (by omega)
    rw [← m_f0_s] at K1
    refine r_iload_4 d_X10_way_36 ?_
    refine r_push (v := nI 64) d_X10_way_38 ?_
    refine r_icmp_ge d_X10_way_40 (fun c40 => ?_) (fun c40 => ?_)
    · -- taken at 40
      have c40 : 64 ≤ i := (nI_leI (a := 64) (b := i) (by omega) (by omega)).mp c40
      exfalso; omega
    · -- not taken at 40
      have c40 : ¬ 64 ≤ i := fun zz9 => c40 ((nI_leI (a := 64) (b := i) (by omega) (by omega)).mpr zz9)
      refine r_aload_0 d_X10_way_43 ?_
      refine r_get d_X10_way_44 s10_far rfl rfl ?_
      refine r_iload_4 d_X10_way_47 ?_
      refine r_iload_4 d_X10_way_49 ?_
      refine r_iload_2 d_X10_way_51 ?_
      refine r_icmp_ne d_X10_way_52 (fun c52 => ?_) (fun c52 => ?_)
      · -- taken at 52
        have c52 : ¬ i = y := fun zz9 => c52 ((nI_eq (a := i) (b := y) (by omega) (by omega)).mpr zz9)
        rw [if_neg c52] at K1
        refine r_push (v := nI 1000) d_X10_way_59 ?_
        refine r_iast d_X10_way_62 rfl (pm_ixN (by omega) (by omega)) ?_
        rw [pmM_far, m_aua, show va_up A 60 (fun j => nI (m_f0 y g i j)) 60 = (fun j => nI (m_f0 y g i j)) from rfl, pm_nu]
        refine r_iinc_4 d_X10_way_63 (Nat.le_of_ble_eq_true rfl) (fun w hw => by cases hw <;> rfl) ?_
        rw [nI_1]
        refine r_goto d_X10_way_66 ?_
        exact K1
      · -- not taken at 52
        have c52 : i = y := (nI_eq (a := i) (b := y) (by omega) (by omega)).mp c52
        rw [if_pos c52] at K1
        refine r_push (v := nI 0) d_X10_way_55 ?_
        refine r_goto d_X10_way_56 ?_
        refine r_iast d_X10_way_62 rfl (pm_ixN (by omega) (by omega)) ?_
        rw [pmM_far, m_aua, show va_up A 60 (fun j => nI (m_f0 y g i j)) 60 = (fun j => nI (m_f0 y g i j)) from rfl, pm_nu]
        refine r_iinc_4 d_X10_way_63 (Nat.le_of_ble_eq_true rfl) (fun w hw => by cases hw <;> rfl) ?_
        rw [nI_1]
        refine r_goto d_X10_way_66 ?_
        exact K1
set_option maxRecDepth 10000 in
set_option maxHeartbeats 4000000 in
theorem l1_X10_way {h : pm_H} {mi : Nat → Int32} {ml : Nat → Int64} {A : Nat → Nat → Int32} {B : Nat → Nat → Int64} {x y lt : Nat} (hx : x < 64) (hy : y < 64) (hlt : lt < 512) {f0 : Nat → Nat} {q : Nat} (hq : q < 64) {F : Option Value → pm_H → Prop} {b9 : Nat × Nat} (K : ∀ g fr o7, m_Z lt y f0 q 9 g fr → pm_V e_X10_way 164 [some (.ref 44), some (.int (nI x)), some (.int (nI y)), some (.int (nI lt)), some (.int (nI g)), some (.int (nI q)), some (.int (nI 9)), o7] [] (pmM h mi ml (va_up A 60 (fun j => nI (fr j))) B) b9 F) : ∀ (d a g : Nat) (fr : Nat → Nat) (o7 : Option Value), a + d = 9 → m_Z lt y f0 q a g fr → pm_V e_X10_way 93 [some (.ref 44), some (.int (nI x)), some (.int (nI y)), some (.int (nI lt)), some (.int (nI g)), some (.int (nI q)), some (.int (nI a)), o7] [] (pmM h mi ml (va_up A 60 (fun j => nI (fr j))) B) b9 F := by
  intro d
  induction d with
  | zero =>
    intro a g fr o7 hid hz
    obtain rfl : a = 9 := by omega
    refine r_iload_6 d_X10_way_93 ?_
    refine r_push (v := nI 9) d_X10_way_95 ?_
    refine r_icmp_ge d_X10_way_97 (fun c97 => ?_) (fun c97 => absurd (by decide) c97)
    clear c97
    exact K _ _ _ hz
  | succ d ih =>
    intro a g fr o7 hid hz
    have ha : a < 9 := by omega
    have hf1 := hz.1.1 q hq
    have hat := sp_aft_lt q hq a ha
    have hf2 := hz.1.1 _ hat
    have hmod : lt / 2 ^ a % 2 < 2 := Nat.mod_lt _ (by decide)
    refine r_iload_6 d_X10_way_93 ?_
    refine r_push (v := nI 9) d_X10_way_95 ?_
    refine r_icmp_ge d_X10_way_97 (fun c97 => ?_) (fun c97 => ?_)
    · -- taken at 97
      have c97 : 9 ≤ a := (nI_leI (a := 9) (b := a) (by omega) (by omega)).mp c97
      exfalso; omega
    · -- not taken at 97
      have c97 : ¬ 9 ≤ a := fun zz9 => c97 ((nI_leI (a := 9) (b := a) (by omega) (by omega)).mpr zz9)
      refine r_iload_3 d_X10_way_100 ?_
      refine r_iload_6 d_X10_way_101 ?_
      refine r_ishr d_X10_way_103 ?_
      refine r_push (v := nI 1) d_X10_way_104 ?_
      refine r_iand d_X10_way_105 ?_
      rw [pm_lbit lt hlt a ha]
      refine r_push (v := nI 1) d_X10_way_106 ?_
      refine r_icmp_ne d_X10_way_107 (fun c107 => ?_) (fun c107 => ?_)
      · -- taken at 107
        have c107 : ¬ (lt / 2 ^ a % 2) = 1 := fun zz9 => c107 ((nI_eq (a := (lt / 2 ^ a % 2)) (b := 1) (by omega) (by omega)).mpr zz9)
        refine r_iinc_6 d_X10_way_158 (Nat.le_of_ble_eq_true rfl) (fun w hw => by cases hw <;> rfl) ?_
        rw [nI_1]
        refine r_goto d_X10_way_161 ?_
        first
        | exact ih (a + 1) _ _ _ (by omega) (m_Z_u hz hq ha c107 (by omega))
        | exact ih (a + 1) _ _ _ (by omega) (m_Z_k hz (fun hb => by omega))
      · -- not taken at 107
        have c107 : (lt / 2 ^ a % 2) = 1 := (nI_eq (a := (lt / 2 ^ a % 2)) (b := 1) (by omega) (by omega)).mp c107
        refine r_aload_0 d_X10_way_110 ?_
        refine r_get d_X10_way_111 s10_far rfl rfl ?_
        refine r_iload_5 d_X10_way_114 ?_
        refine r_iload_6 d_X10_way_116 ?_
        refine r_S2 d_X10_way_118 (c_X10_after (x := q) (act := a) (by omega) (by omega)) ⟨rfl, rfl⟩ (Nat.le_of_ble_eq_true rfl) ?_
        refine r_iald d_X10_way_121 rfl (pm_ixN (by omega) (by omega)) ?_
        rw [show va_up A 60 (fun j => nI (fr j)) 60 (sp_aft q a) = nI (fr (sp_aft q a)) from rfl]
        refine r_push (v := nI 1) d_X10_way_122 ?_
        refine r_iadd d_X10_way_123 ?_
        rw [nI_add]
        refine r_aload_0 d_X10_way_124 ?_
        refine r_get d_X10_way_125 s10_far rfl rfl ?_
        refine r_iload_5 d_X10_way_128 ?_
        refine r_iald d_X10_way_130 rfl (pm_ixN (by omega) (by omega)) ?_
        rw [show va_up A 60 (fun j => nI (fr j)) 60 (q) = nI (fr (q)) from rfl]
        refine r_icmp_ge d_X10_way_131 (fun c131 => ?_) (fun c131 => ?_)
        · -- taken at 131
          have c131 : (fr (q)) ≤ ((fr (sp_aft q a)) + 1) := (nI_leI (a := (fr (q))) (b := ((fr (sp_aft q a)) + 1)) (by omega) (by omega)).mp c131
          refine r_iinc_6 d_X10_way_158 (Nat.le_of_ble_eq_true rfl) (fun w hw => by cases hw <;> rfl) ?_
          rw [nI_1]
          refine r_goto d_X10_way_161 ?_
          first
          | exact ih (a + 1) _ _ _ (by omega) (m_Z_u hz hq ha c107 (by omega))
          | exact ih (a + 1) _ _ _ (by omega) (m_Z_k hz (fun hb => by omega))
        · -- not taken at 131
          have c131 : ¬ (fr (q)) ≤ ((fr (sp_aft q a)) + 1) := fun zz9 => c131 ((nI_leI (a := (fr (q))) (b := ((fr (sp_aft q a)) + 1)) (by omega) (by omega)).mpr zz9)
          refine r_aload_0 d_X10_way_134 ?_
          refine r_get d_X10_way_135 s10_far rfl rfl ?_
          refine r_iload_5 d_X10_way_138 ?_
          refine r_aload_0 d_X10_way_140 ?_
          refine r_get d_X10_way_141 s10_far rfl rfl ?_
          refine r_iload_5 d_X10_way_144 ?_
          refine r_iload_6 d_X10_way_146 ?_
          refine r_S2 d_X10_way_148 (c_X10_after (x := q) (act := a) (by omega) (by omega)) ⟨rfl, rfl⟩ (Nat.le_of_ble_eq_true rfl) ?_
          refine r_iald d_X10_way_151 rfl (pm_ixN (by omega) (by omega)) ?_
          rw [show va_up A 60 (fun j => nI (fr j)) 60 (sp_aft q a) = nI (fr (sp_aft q a)) from rfl]
          refine r_push (v := nI 1) d_X10_way_152 ?_
          refine r_iadd d_X10_way_153 ?_
          rw [nI_add]
          refine r_iast d_X10_way_154 rfl (pm_ixN (by omega) (by omega)) ?_
          rw [pmM_far, m_aua, show va_up A 60 (fun j => nI (fr j)) 60 = (fun j => nI (fr j)) from rfl, pm_nu]
          refine r_push (v := nI 1) d_X10_way_155 ?_
          refine r_istore_4 d_X10_way_156 (Nat.le_of_ble_eq_true rfl) (fun w hw => by cases hw <;> rfl) ?_
          refine r_iinc_6 d_X10_way_158 (Nat.le_of_ble_eq_true rfl) (fun w hw => by cases hw <;> rfl) ?_
          rw [nI_1]
          refine r_goto d_X10_way_161 ?_
          first
          | exact ih (a + 1) _ _ _ (by omega) (m_Z_u hz hq ha c107 (by omega))
          | exact ih (a + 1) _ _ _ (by omega) (m_Z_k hz (fun hb => by omega))
set_option maxRecDepth 10000 in
set_option maxHeartbeats 4000000 in
theorem l2_X10_way {h : pm_H} {mi : Nat → Int32} {ml : Nat → Int64} {A : Nat → Nat → Int32} {B : Nat → Nat → Int64} {x y lt : Nat} (hx : x < 64) (hy : y < 64) (hlt : lt < 512) {f0 : Nat → Nat} {F : Option Value → pm_H → Prop} {b9 : Nat × Nat} (K : ∀ g fr o6 o7, (∀ w, o6 = some w → w.category = 1) → m_Z lt y f0 64 0 g fr → pm_V e_X10_way 72 [some (.ref 44), some (.int (nI x)), some (.int (nI y)), some (.int (nI lt)), some (.int (nI g)), some (.int (nI 64)), o6, o7] [] (pmM h mi ml (va_up A 60 (fun j => nI (fr j))) B) b9 F) : ∀ (d q g : Nat) (fr : Nat → Nat) (o6 o7 : Option Value), q + d = 64 → (∀ w, o6 = some w → w.category = 1) → m_Z lt y f0 q 0 g fr → pm_V e_X10_way 83 [some (.ref 44), some (.int (nI x)), some (.int (nI y)), some (.int (nI lt)), some (.int (nI g)), some (.int (nI q)), o6, o7] [] (pmM h mi ml (va_up A 60 (fun j => nI (fr j))) B) b9 F := by
  intro d
  induction d with
  | zero =>
    intro q g fr o6 o7 hid h6 hz
    obtain rfl : q = 64 := by omega
    refine r_iload_5 d_X10_way_83 ?_
    refine r_push (v := nI 64) d_X10_way_85 ?_
    refine r_icmp_ge d_X10_way_87 (fun c87 => ?_) (fun c87 => absurd (by decide) c87)
    clear c87
    refine r_goto d_X10_way_170 ?_
    exact K _ _ _ _ h6 hz
  | succ d ih =>
    intro q g fr o6 o7 hid h6 hz
    refine r_iload_5 d_X10_way_83 ?_
    refine r_push (v := nI 64) d_X10_way_85 ?_
    refine r_icmp_ge d_X10_way_87 (fun c87 => ?_) (fun c87 => ?_)
    · -- taken at 87
      have c87 : 64 ≤ q := (nI_leI (a := 64) (b := q) (by omega) (by omega)).mp c87
      exfalso; omega
    · -- not taken at 87
      have c87 : ¬ 64 ≤ q := fun zz9 => c87 ((nI_leI (a := 64) (b := q) (by omega) (by omega)).mpr zz9)
      refine r_push (v := nI 0) d_X10_way_90 ?_
      refine r_istore_6 d_X10_way_91 (Nat.le_of_ble_eq_true rfl) (fun w hw => by cases hw <;> rfl) ?_
      refine l1_X10_way hx hy hlt (by omega) (fun g1 fr1 o8 hz1 => ?_) 9 0 g fr _ (by omega) hz
      refine r_iinc_5 d_X10_way_164 (Nat.le_of_ble_eq_true rfl) (fun w hw => by cases hw <;> rfl) ?_
      rw [nI_1]
      refine r_goto d_X10_way_167 ?_
      exact ih (q + 1) _ _ _ _ (by omega) (fun w hw => by cases hw <;> rfl) (m_Z_n hz1)
set_option maxRecDepth 10000 in
set_option maxHeartbeats 4000000 in
theorem l3_X10_way {h : pm_H} {mi : Nat → Int32} {ml : Nat → Int64} {A : Nat → Nat → Int32} {B : Nat → Nat → Int64} {x y lt : Nat} (hx : x < 64) (hy : y < 64) (hlt : lt < 512) {F : Option Value → pm_H → Prop} {b9 : Nat × Nat} (K : ∀ fr o5 o6 o7, m_inv lt y fr → m_fix lt fr → (∀ w, o5 = some w → w.category = 1) → (∀ w, o6 = some w → w.category = 1) → pm_V e_X10_way 173 [some (.ref 44), some (.int (nI x)), some (.int (nI y)), some (.int (nI lt)), some (.int (nI 0)), o5, o6, o7] [] (pmM h mi ml (va_up A 60 (fun j => nI (fr j))) B) b9 F) : ∀ (n : Nat) (fr : Nat → Nat) (o5 o6 o7 : Option Value), sp_sum fr 64 < n → m_inv lt y fr → (∀ w, o5 = some w → w.category = 1) → (∀ w, o6 = some w → w.category = 1) → pm_V e_X10_way 72 [some (.ref 44), some (.int (nI x)), some (.int (nI y)), some (.int (nI lt)), some (.int (nI 1)), o5, o6, o7] [] (pmM h mi ml (va_up A 60 (fun j => nI (fr j))) B) b9 F := by
  intro n
  induction n with
  | zero =>
    intro fr o5 o6 o7 hn
    omega
  | succ n ih =>
    intro fr o5 o6 o7 hn hi0 h5 h6
    refine r_iload_4 d_X10_way_72 ?_
    refine r_if_eq d_X10_way_74 (fun c74 => absurd c74 (by decide)) (fun c74 => ?_)
    clear c74
    refine r_push (v := nI 0) d_X10_way_77 ?_
    refine r_istore_4 d_X10_way_78 (Nat.le_of_ble_eq_true rfl) (fun w hw => by cases hw <;> rfl) ?_
    refine r_push (v := nI 0) d_X10_way_80 ?_
    refine r_istore_5 d_X10_way_81 (Nat.le_of_ble_eq_true rfl) (fun w hw => by cases hw <;> rfl) ?_
    refine l2_X10_way hx hy hlt (f0 := fr) (fun g1 fr1 o8 o9 h8 hz => ?_) 64 0 0 fr _ _ (by omega) h6 ⟨hi0, Or.inr ⟨rfl, rfl, fun j hj a ha hb hc => by omega⟩⟩
    obtain ⟨z1, ⟨rfl, z3⟩ | ⟨rfl, z3, z4⟩⟩ := hz
    · exact ih fr1 _ _ _ (by omega) z1 (fun w hw => by cases hw <;> rfl) h8
    · refine r_iload_4 d_X10_way_72 ?_
      refine r_if_eq d_X10_way_74 (fun _ => ?_) (fun c => absurd rfl c)
      exact K fr1 _ _ _ z1 (fun j hj a ha hb => z4 j hj a ha hb (Or.inl hj)) (fun w hw => by cases hw <;> rfl) h8
set_option maxRecDepth 10000 in
set_option maxHeartbeats 4000000 in
theorem l4_X10_way {h : pm_H} {mi : Nat → Int32} {ml : Nat → Int64} {A : Nat → Nat → Int32} {B : Nat → Nat → Int64} {x y lt : Nat} (hx : x < 64) (hy : y < 64) (hlt : lt < 512) {fr : Nat → Nat} (hiv : m_inv lt y fr) (hfx : m_fix lt fr) {q a i : Nat} {sr : Nat → Int32} (hq : q < 64) (ha : a < 9) (hq0 : 0 < fr q) (hpa : sp_pb lt fr q a = true) (hpn : ∀ b, b < a → sp_pb lt fr q b = false) {F : Option Value → pm_H → Prop} {b9 : Nat × Nat} (K : pm_V e_X10_way 257 [some (.ref 44), some (.int (nI x)), some (.int (nI y)), some (.int (nI lt)), some (.int (nI 0)), some (.int (nI q)), some (.int (nI i)), some (.int (nI a))] [] (pmM h (upd mi 2 (nI (fr x))) ml (va_up (va_up A 60 (fun j => nI (fr j))) 61 sr) B) b9 F) : ∀ (d b : Nat), b + d = a → pm_V e_X10_way 218 [some (.ref 44), some (.int (nI x)), some (.int (nI y)), some (.int (nI lt)), some (.int (nI 0)), some (.int (nI q)), some (.int (nI i)), some (.int (nI b))] [] (pmM h (upd mi 2 (nI (fr x))) ml (va_up (va_up A 60 (fun j => nI (fr j))) 61 sr) B) b9 F := by
  intro d
  induction d with
  | zero =>
    intro b hid
    obtain rfl : b = a := by omega
    simp only [sp_pb, decide_eq_true_eq] at hpa
    have hf1 := hiv.1 q hq
    have hat := sp_aft_lt q hq b ha
    have hf2 := hiv.1 _ hat
    refine r_iload_3 d_X10_way_218 ?_
    refine r_iload_7 d_X10_way_219 ?_
    refine r_ishr d_X10_way_221 ?_
    refine r_push (v := nI 1) d_X10_way_222 ?_
    refine r_iand d_X10_way_223 ?_
    rw [pm_lbit lt hlt b (by omega)]
    refine r_if_eq d_X10_way_224 (fun c224 => ?_) (fun c224 => ?_)
    · -- taken at 224
      have c224 : (lt / 2 ^ b % 2) = 0 := (nI_eq (a := (lt / 2 ^ b % 2)) (b := 0) (by omega) (by omega)).mp c224
      exfalso; omega
    · -- not taken at 224
      have c224 : ¬ (lt / 2 ^ b % 2) = 0 := fun zz9 => c224 ((nI_eq (a := (lt / 2 ^ b % 2)) (b := 0) (by omega) (by omega)).mpr zz9)
      refine r_aload_0 d_X10_way_227 ?_
      refine r_get d_X10_way_228 s10_far rfl rfl ?_
      refine r_iload_5 d_X10_way_231 ?_
      refine r_iload_7 d_X10_way_233 ?_
      refine r_S2 d_X10_way_235 (c_X10_after (x := q) (act := b) (by omega) (by omega)) ⟨rfl, rfl⟩ (Nat.le_of_ble_eq_true rfl) ?_
      refine r_iald d_X10_way_238 rfl (pm_ixN (by omega) (by omega)) ?_
      rw [show va_up (va_up A 60 (fun j => nI (fr j))) 61 sr 60 (sp_aft q b) = nI (fr (sp_aft q b)) from rfl]
      refine r_aload_0 d_X10_way_239 ?_
      refine r_get d_X10_way_240 s10_far rfl rfl ?_
      refine r_iload_5 d_X10_way_243 ?_
      refine r_iald d_X10_way_245 rfl (pm_ixN (by omega) (by omega)) ?_
      rw [show va_up (va_up A 60 (fun j => nI (fr j))) 61 sr 60 (q) = nI (fr (q)) from rfl]
      refine r_push (v := nI 1) d_X10_way_246 ?_
      refine r_isub d_X10_way_247 ?_
      rw [pk_sub (a := (fr (q))) (b := 1) (by omega)]
      refine r_icmp_eq d_X10_way_248 (fun c248 => ?_) (fun c248 => ?_)
      · -- taken at 248
        have c248 : (fr (sp_aft q b)) = ((fr (q)) - 1) := (nI_eq (a := (fr (sp_aft q b))) (b := ((fr (q)) - 1)) (by omega) (by omega)).mp c248
        exact K
      · -- not taken at 248
        have c248 : ¬ (fr (sp_aft q b)) = ((fr (q)) - 1) := fun zz9 => c248 ((nI_eq (a := (fr (sp_aft q b))) (b := ((fr (q)) - 1)) (by omega) (by omega)).mpr zz9)
        exfalso; omega
  | succ d ih =>
    intro b hid
    have hpb := hpn b (by omega)
    simp only [sp_pb, decide_eq_false_iff_not] at hpb
    have hf1 := hiv.1 q hq
    have hat := sp_aft_lt q hq b (by omega)
    have hf2 := hiv.1 _ hat
    have hmod : lt / 2 ^ b % 2 < 2 := Nat.mod_lt _ (by decide)
    refine r_iload_3 d_X10_way_218 ?_
    refine r_iload_7 d_X10_way_219 ?_
    refine r_ishr d_X10_way_221 ?_
    refine r_push (v := nI 1) d_X10_way_222 ?_
    refine r_iand d_X10_way_223 ?_
    rw [pm_lbit lt hlt b (by omega)]
    refine r_if_eq d_X10_way_224 (fun c224 => ?_) (fun c224 => ?_)
    · -- taken at 224
      have c224 : (lt / 2 ^ b % 2) = 0 := (nI_eq (a := (lt / 2 ^ b % 2)) (b := 0) (by omega) (by omega)).mp c224
      refine r_iinc_7 d_X10_way_251 (Nat.le_of_ble_eq_true rfl) (fun w hw => by cases hw <;> rfl) ?_
      rw [nI_1]
      refine r_goto d_X10_way_254 ?_
      exact ih (b + 1) (by omega)
    · -- not taken at 224
      have c224 : ¬ (lt / 2 ^ b % 2) = 0 := fun zz9 => c224 ((nI_eq (a := (lt / 2 ^ b % 2)) (b := 0) (by omega) (by omega)).mpr zz9)
      refine r_aload_0 d_X10_way_227 ?_
      refine r_get d_X10_way_228 s10_far rfl rfl ?_
      refine r_iload_5 d_X10_way_231 ?_
      refine r_iload_7 d_X10_way_233 ?_
      refine r_S2 d_X10_way_235 (c_X10_after (x := q) (act := b) (by omega) (by omega)) ⟨rfl, rfl⟩ (Nat.le_of_ble_eq_true rfl) ?_
      refine r_iald d_X10_way_238 rfl (pm_ixN (by omega) (by omega)) ?_
      rw [show va_up (va_up A 60 (fun j => nI (fr j))) 61 sr 60 (sp_aft q b) = nI (fr (sp_aft q b)) from rfl]
      refine r_aload_0 d_X10_way_239 ?_
      refine r_get d_X10_way_240 s10_far rfl rfl ?_
      refine r_iload_5 d_X10_way_243 ?_
      refine r_iald d_X10_way_245 rfl (pm_ixN (by omega) (by omega)) ?_
      rw [show va_up (va_up A 60 (fun j => nI (fr j))) 61 sr 60 (q) = nI (fr (q)) from rfl]
      refine r_push (v := nI 1) d_X10_way_246 ?_
      refine r_isub d_X10_way_247 ?_
      rw [pk_sub (a := (fr (q))) (b := 1) (by omega)]
      refine r_icmp_eq d_X10_way_248 (fun c248 => ?_) (fun c248 => ?_)
      · -- taken at 248
        have c248 : (fr (sp_aft q b)) = ((fr (q)) - 1) := (nI_eq (a := (fr (sp_aft q b))) (b := ((fr (q)) - 1)) (by omega) (by omega)).mp c248
        exact absurd ⟨by omega, by omega⟩ hpb
      · -- not taken at 248
        have c248 : ¬ (fr (sp_aft q b)) = ((fr (q)) - 1) := fun zz9 => c248 ((nI_eq (a := (fr (sp_aft q b))) (b := ((fr (q)) - 1)) (by omega) (by omega)).mpr zz9)
        refine r_iinc_7 d_X10_way_251 (Nat.le_of_ble_eq_true rfl) (fun w hw => by cases hw <;> rfl) ?_
        rw [nI_1]
        refine r_goto d_X10_way_254 ?_
        exact ih (b + 1) (by omega)
set_option maxRecDepth 10000 in
set_option maxHeartbeats 4000000 in
theorem l5_X10_way {h : pm_H} {mi : Nat → Int32} {ml : Nat → Int64} {A : Nat → Nat → Int32} {B : Nat → Nat → Int64} {x y lt : Nat} (hx : x < 64) (hy : y < 64) (hlt : lt < 512) {fr : Nat → Nat} (hiv : m_inv lt y fr) (hfx : m_fix lt fr) (hsx : fr x ≤ 64) {F : Option Value → pm_H → Prop} {b9 : Nat × Nat} (K : ∀ q sr o7, (∀ j, j < fr x → sr j = nI ((sp_gp lt fr (fr x) x).getD j 0)) → pm_V e_X10_way 281 [some (.ref 44), some (.int (nI x)), some (.int (nI y)), some (.int (nI lt)), some (.int (nI 0)), some (.int (nI q)), some (.int (nI (fr x))), o7] [] (pmM h (upd mi 2 (nI (fr x))) ml (va_up (va_up A 60 (fun j => nI (fr j))) 61 sr) B) b9 F) : ∀ (d i q : Nat) (sr : Nat → Int32) (o7 : Option Value), i + d = fr x → q < 64 → fr q = d → (∀ j, j < i → sr j = nI ((sp_gp lt fr (fr x) x).getD j 0)) → (sp_gp lt fr (fr x) x).drop i = sp_gp lt fr d q → pm_V e_X10_way 206 [some (.ref 44), some (.int (nI x)), some (.int (nI y)), some (.int (nI lt)), some (.int (nI 0)), some (.int (nI q)), some (.int (nI i)), o7] [] (pmM h (upd mi 2 (nI (fr x))) ml (va_up (va_up A 60 (fun j => nI (fr j))) 61 sr) B) b9 F := by
  intro d
  induction d with
  | zero =>
    intro i q sr o7 hid hq hfq hsr hdr
    obtain rfl : i = fr x := by omega
    refine r_iload_6 d_X10_way_206 ?_
    refine r_aload_0 d_X10_way_208 ?_
    refine r_get d_X10_way_209 s10_steps rfl rfl ?_
    refine r_icmp_ge d_X10_way_212 (fun c212 => ?_) (fun c212 => ?_)
    · -- taken at 212
      have c212 : (fr x) ≤ (fr x) := (nI_leI (a := (fr x)) (b := (fr x)) (by omega) (by omega)).mp c212
      exact K _ _ _ hsr
    · -- not taken at 212
      have c212 : ¬ (fr x) ≤ (fr x) := fun zz9 => c212 ((nI_leI (a := (fr x)) (b := (fr x)) (by omega) (by omega)).mpr zz9)
      exfalso; omega
  | succ d ih =>
    intro i q sr o7 hid hq hfq hsr hdr
    obtain ⟨g0, g1, g2, g3, g4⟩ := m_gb hiv hfx hq (by omega) (by omega)
    have hpa : sp_pb lt fr q (sp_ga lt fr q) = true := by simp only [sp_pb, decide_eq_true_eq]; exact ⟨g2, g3⟩
    have hdr : (sp_gp lt fr (fr x) x).drop i = sp_ga lt fr q :: sp_gp lt fr d (sp_aft q (sp_ga lt fr q)) := hdr
    have hgi : (sp_gp lt fr (fr x) x).getD i 0 = sp_ga lt fr q := by
      have : ((sp_gp lt fr (fr x) x).drop i)[0]? = some (sp_ga lt fr q) := by rw [hdr]; rfl
      rw [List.getElem?_drop] at this
      simp only [List.getD, this, Nat.add_zero, Option.getD_some] at this ⊢
    have hdr2 : (sp_gp lt fr (fr x) x).drop (i + 1) = sp_gp lt fr d (sp_aft q (sp_ga lt fr q)) := by
      rw [← List.drop_drop, hdr]; rfl
    have hat := sp_aft_lt q hq _ g1
    refine r_iload_6 d_X10_way_206 ?_
    refine r_aload_0 d_X10_way_208 ?_
    refine r_get d_X10_way_209 s10_steps rfl rfl ?_
    refine r_icmp_ge d_X10_way_212 (fun c212 => ?_) (fun c212 => ?_)
    · -- taken at 212
      have c212 : (fr x) ≤ i := (nI_leI (a := (fr x)) (b := i) (by omega) (by omega)).mp c212
      exfalso; omega
    · -- not taken at 212
      have c212 : ¬ (fr x) ≤ i := fun zz9 => c212 ((nI_leI (a := (fr x)) (b := i) (by omega) (by omega)).mpr zz9)
      refine r_push (v := nI 0) d_X10_way_215 ?_
      refine r_istore_7 d_X10_way_216 (Nat.le_of_ble_eq_true rfl) (fun w hw => by cases hw <;> rfl) ?_
      refine l4_X10_way hx hy hlt hiv hfx hq g1 (by omega) hpa g4 ?_ (sp_ga lt fr q) 0 (by omega)
      refine r_aload_0 d_X10_way_257 ?_
      refine r_get d_X10_way_258 s10_stepRow rfl rfl ?_
      refine r_iload_6 d_X10_way_261 ?_
      refine r_iload_7 d_X10_way_263 ?_
      refine r_iast d_X10_way_265 rfl (pm_ixN (by omega) (by omega)) ?_
      rw [pmM_stepRow, m_aua, show va_up (va_up A 60 (fun j => nI (fr j))) 61 sr 61 = sr from rfl]
      refine r_iload_5 d_X10_way_266 ?_
      refine r_iload_7 d_X10_way_268 ?_
      refine r_S2 d_X10_way_270 (c_X10_after (x := q) (act := (sp_ga lt fr q)) (by omega) (by omega)) ⟨rfl, rfl⟩ (Nat.le_of_ble_eq_true rfl) ?_
      refine r_istore_5 d_X10_way_273 (Nat.le_of_ble_eq_true rfl) (fun w hw => by cases hw <;> rfl) ?_
      refine r_iinc_6 d_X10_way_275 (Nat.le_of_ble_eq_true rfl) (fun w hw => by cases hw <;> rfl) ?_
      rw [nI_1]
      refine r_goto d_X10_way_278 ?_
      refine ih (i + 1) (sp_aft q (sp_ga lt fr q)) _ _ (by omega) hat (by omega) (fun j hj => ?_) hdr2
      by_cases e : j = i
      · subst e; rw [hgi]; exact if_pos rfl
      · rw [← hsr j (by omega)]; exact if_neg e
set_option maxRecDepth 10000 in
set_option maxHeartbeats 4000000 in
theorem c_X10_way {h : pm_H} {mi : Nat → Int32} {ml : Nat → Int64} {A : Nat → Nat → Int32} {B : Nat → Nat → Int64} {x y lt : Nat} (hx : x < 64) (hy : y < 64) (hlt : lt < 512) (hsh : ∀ Q, sp_path lt y Q x → ∃ R : List Nat, R.length < 64 ∧ sp_path lt y R x) : pm_Cl e_X10_way [.ref 44, .int (nI x), .int (nI y), .int (nI lt)] (pmM h mi ml A B) (fun v9 h1 => ∃ fr, m_inv lt y fr ∧ m_fix lt fr ∧ ((fr x < 64 ∧ v9 = some (.int (nI (fr x))) ∧ ∃ sr, (∀ j, j < fr x → sr j = nI ((sp_gp lt fr (fr x) x).getD j 0)) ∧ h1 = pmM h (upd mi 2 (nI (fr x))) ml (va_up (va_up A 60 (fun j => nI (fr j))) 61 sr) B) ∨ (fr x = 1000 ∧ v9 = some (.int (-9)) ∧ h1 = pmM h (upd mi 2 (-9)) ml (va_up A 60 (fun j => nI (fr j))) B))) := by
  obtain ⟨g, hg⟩ := pm_nIs (A 60)
  refine pm_enter rfl (Nat.le_of_ble_eq_true rfl) ?_
  show pm_V e_X10_way 0 [some (.ref 44), some (.int (nI x)), some (.int (nI y)), some (.int (nI lt)), none, none, none, none] [] (pmM h mi ml A B) (0, 0) _
  refine r_iload_1 d_X10_way_0 ?_
  refine r_push (v := nI 0) d_X10_way_1 ?_
  refine r_push (v := nI 63) d_X10_way_2 ?_
  refine r_S3 d_X10_way_4 (c_X10_inN (by omega) (by omega) (by omega)) ⟨rfl, rfl⟩ (Nat.le_of_ble_eq_true rfl) ?_
  refine r_if_eq d_X10_way_7 (fun c7 => absurd c7 (by decide)) (fun c7 => ?_)
  clear c7
  refine r_iload_2 d_X10_way_10 ?_
  refine r_push (v := nI 0) d_X10_way_11 ?_
  refine r_push (v := nI 63) d_X10_way_12 ?_
  refine r_S3 d_X10_way_14 (c_X10_inN (by omega) (by omega) (by omega)) ⟨rfl, rfl⟩ (Nat.le_of_ble_eq_true rfl) ?_
  refine r_if_eq d_X10_way_17 (fun c17 => absurd c17 (by decide)) (fun c17 => ?_)
  clear c17
  refine r_iload_3 d_X10_way_20 ?_
  refine r_push (v := nI 0) d_X10_way_21 ?_
  refine r_push (v := nI 511) d_X10_way_22 ?_
  refine r_S3 d_X10_way_25 (c_X10_inN (by omega) (by omega) (by omega)) ⟨rfl, rfl⟩ (Nat.le_of_ble_eq_true rfl) ?_
  refine r_if_ne d_X10_way_28 (fun c28 => ?_) (fun c28 => absurd c28 (by decide))
  clear c28
  refine r_push (v := nI 0) d_X10_way_33 ?_
  refine r_istore_4 d_X10_way_34 (Nat.le_of_ble_eq_true rfl) (fun w hw => by cases hw <;> rfl) ?_
  have eA : pmM h mi ml A B = pmM h mi ml (va_up A 60 (fun j => nI (m_f0 y g 0 j))) B := by
    rw [show (fun j => nI (m_f0 y g 0 j)) = A 60 from hg.symm, m_aus]
  rw [eA]
  refine l0_X10_way hx hy hlt ?_ 64 0 (by omega)
  refine r_push (v := nI 1) d_X10_way_69 ?_
  refine r_istore_4 d_X10_way_70 (Nat.le_of_ble_eq_true rfl) (fun w hw => by cases hw <;> rfl) ?_
  refine l3_X10_way hx hy hlt (fun fr o5 o6 o7 hiv hfx h5 h6 => ?_) (sp_sum (m_f0 y g 64) 64 + 1) _ _ _ _ (by omega) (m_f0_inv hy) (fun w hw => by cases hw) (fun w hw => by cases hw)
  have hx1 := hiv.1 x hx
  refine r_aload_0 d_X10_way_173 ?_
  refine r_aload_0 d_X10_way_174 ?_
  refine r_get d_X10_way_175 s10_far rfl rfl ?_
  refine r_iload_1 d_X10_way_178 ?_
  refine r_iald d_X10_way_179 rfl (pm_ixN (by omega) (by omega)) ?_
  rw [show va_up A 60 (fun j => nI (fr j)) 60 (x) = nI (fr (x)) from rfl]
  refine r_push (v := nI 1000) d_X10_way_180 ?_
  refine r_icmp_ge d_X10_way_183 (fun c183 => ?_) (fun c183 => ?_)
  · -- taken at 183
    have c183 : 1000 ≤ (fr (x)) := (nI_leI (a := 1000) (b := (fr (x))) (by omega) (by omega)).mp c183
    refine r_push d_X10_way_195 ?_
    refine r_put d_X10_way_197 s10_steps rfl (Nat.le_of_ble_eq_true rfl) ⟨rfl, rfl⟩ ?_
    rw [pmM_steps]
    refine r_iload_1 d_X10_way_200 ?_
    refine r_istore_5 d_X10_way_201 (Nat.le_of_ble_eq_true rfl) (fun w hw => by cases hw <;> rfl) ?_
    refine r_push (v := nI 0) d_X10_way_203 ?_
    refine r_istore_6 d_X10_way_204 (Nat.le_of_ble_eq_true rfl) (fun w hw => by cases hw <;> rfl) ?_
    refine r_iload_6 d_X10_way_206 ?_
    refine r_aload_0 d_X10_way_208 ?_
    refine r_get d_X10_way_209 s10_steps rfl rfl ?_
    refine r_icmp_ge d_X10_way_212 (fun c212 => ?_) (fun c212 => ?_)
    · -- taken at 212
      refine r_aload_0 d_X10_way_281 ?_
      refine r_get d_X10_way_282 s10_steps rfl rfl ?_
      refine r_ireturn d_X10_way_285 ⟨_, rfl, rfl⟩ ?_
      exact ⟨fr, hiv, hfx, Or.inr ⟨by omega, rfl, rfl⟩⟩
    · -- not taken at 212
      exact absurd (show (-9 : Int32) ≤ nI 0 by decide) c212
  · -- not taken at 183
    have c183 : ¬ 1000 ≤ (fr (x)) := fun zz9 => c183 ((nI_leI (a := 1000) (b := (fr (x))) (by omega) (by omega)).mpr zz9)
    have hl64 : fr x < 64 := by
      obtain ⟨Q, -, q2⟩ := hiv.2.2 x hx (by omega)
      obtain ⟨R, r1, r2⟩ := hsh Q q2
      have := m_fr_le hiv hfx R x hx r2
      omega
    refine r_aload_0 d_X10_way_186 ?_
    refine r_get d_X10_way_187 s10_far rfl rfl ?_
    refine r_iload_1 d_X10_way_190 ?_
    refine r_iald d_X10_way_191 rfl (pm_ixN (by omega) (by omega)) ?_
    rw [show va_up A 60 (fun j => nI (fr j)) 60 (x) = nI (fr (x)) from rfl]
    refine r_goto d_X10_way_192 ?_
    refine r_put d_X10_way_197 s10_steps rfl (Nat.le_of_ble_eq_true rfl) ⟨rfl, rfl⟩ ?_
    rw [pmM_steps]
    refine r_iload_1 d_X10_way_200 ?_
    refine r_istore_5 d_X10_way_201 (Nat.le_of_ble_eq_true rfl) (fun w hw => by cases hw <;> rfl) ?_
    refine r_push (v := nI 0) d_X10_way_203 ?_
    refine r_istore_6 d_X10_way_204 (Nat.le_of_ble_eq_true rfl) (fun w hw => by cases hw <;> rfl) ?_
    have ea : va_up A 60 (fun j => nI (fr j)) = va_up (va_up A 60 (fun j => nI (fr j))) 61 (A 61) := (m_aus (va_up A 60 (fun j => nI (fr j))) 61).symm
    rw [ea]
    refine l5_X10_way hx hy hlt hiv hfx (by omega) (fun q sr o8 hsr => ?_) (fr x) 0 x (A 61) _ (by omega) hx rfl (fun j hj => absurd hj (by omega)) (by simp)
    refine r_aload_0 d_X10_way_281 ?_
    refine r_get d_X10_way_282 s10_steps rfl rfl ?_
    refine r_ireturn d_X10_way_285 ⟨_, rfl, rfl⟩ ?_
    exact ⟨fr, hiv, hfx, Or.inl ⟨by omega, rfl, sr, hsr, rfl⟩⟩
