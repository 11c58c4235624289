set_option maxRecDepth 10000 in
set_option maxHeartbeats 4000000 in
theorem c_X10_lost_none {h : pm_H} {mi : Nat → Int32} {ml : Nat → Int64} {A : Nat → Nat → Int32} {B : Nat → Nat → Int64} {r c : Int32} {cn : Nat} (hcn : mi 1 = nI cn) (hn10 : cn ≤ 10) (hci : (pm_ci c cn).isSome = false) : pm_Cv e_X10_lost [.ref 44, .int r, .int c] (pmM h mi ml A B) (.int (-1)) (pmM h mi ml A B) := by
  refine pm_enter rfl (Nat.le_of_ble_eq_true rfl) ?_
  show pm_V e_X10_lost 0 [some (.ref 44), some (.int r), some (.int c), none, none, none, none, none, none] [] (pmM h mi ml A B) (0, 0) _
  refine r_aload_0 d_X10_lost_0 ?_
  refine r_iload_2 d_X10_lost_1 ?_
  refine r_V1 d_X10_lost_2 (c_X10_isCaster hcn hn10) rfl rfl rfl ⟨rfl, rfl⟩ (Nat.le_of_ble_eq_true rfl) ?_
  rw [hci]
  show pm_V _ _ _ (.int (nI 0) :: _) _ _ _
  refine r_if_ne d_X10_lost_5 (fun c5 => absurd (by decide) c5) (fun c5 => ?_)
  clear c5
  refine r_push d_X10_lost_8 ?_
  refine r_ireturn d_X10_lost_9 ⟨_, rfl, rfl⟩ ?_
  exact ⟨rfl, rfl⟩
set_option maxRecDepth 10000 in
set_option maxHeartbeats 4000000 in
theorem c_X10_lost_bad {h : pm_H} {mi : Nat → Int32} {ml : Nat → Int64} {A : Nat → Nat → Int32} {B : Nat → Nat → Int64} {r c : Int32} {cn : Nat} (hcn : mi 1 = nI cn) (hn10 : cn ≤ 10) (hci : (pm_ci c cn).isSome = true) (hr : sp_in r 0 3 = false) : pm_Cv e_X10_lost [.ref 44, .int r, .int c] (pmM h mi ml A B) (.int (-1)) (pmM h mi ml A B) := by
  refine pm_enter rfl (Nat.le_of_ble_eq_true rfl) ?_
  show pm_V e_X10_lost 0 [some (.ref 44), some (.int r), some (.int c), none, none, none, none, none, none] [] (pmM h mi ml A B) (0, 0) _
  refine r_aload_0 d_X10_lost_0 ?_
  refine r_iload_2 d_X10_lost_1 ?_
  refine r_V1 d_X10_lost_2 (c_X10_isCaster hcn hn10) rfl rfl rfl ⟨rfl, rfl⟩ (Nat.le_of_ble_eq_true rfl) ?_
  rw [hci]
  show pm_V _ _ _ (.int (nI 1) :: _) _ _ _
  refine r_if_ne d_X10_lost_5 (fun c5 => ?_) (fun c5 => absurd c5 (by decide))
  clear c5
  refine r_aload_0 d_X10_lost_10 ?_
  refine r_iload_1 d_X10_lost_11 ?_
  refine r_V1 d_X10_lost_12 (c_X10_looked_bad hr) rfl rfl rfl ⟨rfl, rfl⟩ (Nat.le_of_ble_eq_true rfl) ?_
  refine r_istore_3 d_X10_lost_15 (Nat.le_of_ble_eq_true rfl) (fun w hw => by cases hw <;> rfl) ?_
  refine r_iload_3 d_X10_lost_16 ?_
  refine r_if_ge d_X10_lost_17 (fun c17 => ?_) (fun c17 => ?_)
  · -- taken at 17
    exact absurd c17 (by decide)
  · -- not taken at 17
    refine r_iload_3 d_X10_lost_20 ?_
    refine r_ireturn d_X10_lost_21 ⟨_, rfl, rfl⟩ ?_
    exact ⟨rfl, rfl⟩
set_option maxRecDepth 10000 in
set_option maxHeartbeats 4000000 in
theorem c_X10_lost_no {h : pm_H} {mi : Nat → Int32} {ml : Nat → Int64} {A : Nat → Nat → Int32} {B : Nat → Nat → Int64} {r : Nat} {c : Int32} {cn : Nat} (hcn : mi 1 = nI cn) (hn10 : cn ≤ 10) (hci : (pm_ci c cn).isSome = true) (hr : r < 4) (hz : A 62 r = -9) : pm_Cv e_X10_lost [.ref 44, .int (nI r), .int c] (pmM h mi ml A B) (.int (-3)) (m_meet h mi ml A B 1) := by
  refine pm_enter rfl (Nat.le_of_ble_eq_true rfl) ?_
  show pm_V e_X10_lost 0 [some (.ref 44), some (.int (nI r)), some (.int c), none, none, none, none, none, none] [] (pmM h mi ml A B) (0, 0) _
  refine r_aload_0 d_X10_lost_0 ?_
  refine r_iload_2 d_X10_lost_1 ?_
  refine r_V1 d_X10_lost_2 (c_X10_isCaster hcn hn10) rfl rfl rfl ⟨rfl, rfl⟩ (Nat.le_of_ble_eq_true rfl) ?_
  rw [hci]
  show pm_V _ _ _ (.int (nI 1) :: _) _ _ _
  refine r_if_ne d_X10_lost_5 (fun c5 => ?_) (fun c5 => absurd c5 (by decide))
  clear c5
  refine r_aload_0 d_X10_lost_10 ?_
  refine r_iload_1 d_X10_lost_11 ?_
  refine r_V1 d_X10_lost_12 (c_X10_looked_none hr hz) rfl rfl rfl ⟨rfl, rfl⟩ (Nat.le_of_ble_eq_true rfl) ?_
  refine r_istore_3 d_X10_lost_15 (Nat.le_of_ble_eq_true rfl) (fun w hw => by cases hw <;> rfl) ?_
  refine r_iload_3 d_X10_lost_16 ?_
  refine r_if_ge d_X10_lost_17 (fun c17 => ?_) (fun c17 => ?_)
  · -- taken at 17
    exact absurd c17 (by decide)
  · -- not taken at 17
    refine r_iload_3 d_X10_lost_20 ?_
    refine r_ireturn d_X10_lost_21 ⟨_, rfl, rfl⟩ ?_
    exact ⟨rfl, rfl⟩
set_option maxRecDepth 10000 in
set_option maxHeartbeats 4000000 in
theorem c_X10_lost_unlike {h : pm_H} {mi : Nat → Int32} {ml : Nat → Int64} {A : Nat → Nat → Int32} {B : Nat → Nat → Int64} {r z : Nat} (hr : r < 4) (hz : A 62 r = nI z) (hz64 : z ≤ 64) {cn c kd n k f lo hi : Nat} (hcn : mi 1 = nI cn) (hn10 : cn ≤ 10) (hcc : c < cn) (hs : m_cas A c kd n k f lo hi) (hpk : sp_pk kd = false) : pm_Cv e_X10_lost [.ref 44, .int (nI r), .int (nI c)] (pmM h mi ml A B) (.int (-3)) (m_meet h mi ml A B 3) := by
  have hkd3 : kd ≤ 3 := by
    obtain ⟨-, ⟨h1 | h1, -⟩ | ⟨h1 | h1, -⟩⟩ := hs <;> omega
  refine pm_enter rfl (Nat.le_of_ble_eq_true rfl) ?_
  show pm_V e_X10_lost 0 [some (.ref 44), some (.int (nI r)), some (.int (nI c)), none, none, none, none, none, none] [] (pmM h mi ml A B) (0, 0) _
  refine r_aload_0 d_X10_lost_0 ?_
  refine r_iload_2 d_X10_lost_1 ?_
  refine r_V1 d_X10_lost_2 (c_X10_isCaster hcn hn10) rfl rfl rfl ⟨rfl, rfl⟩ (Nat.le_of_ble_eq_true rfl) ?_
  rw [pm_ci_of hcc (by omega)]
  show pm_V _ _ _ (.int (nI 1) :: _) _ _ _
  refine r_if_ne d_X10_lost_5 (fun c5 => ?_) (fun c5 => absurd c5 (by decide))
  clear c5
  refine r_aload_0 d_X10_lost_10 ?_
  refine r_iload_1 d_X10_lost_11 ?_
  refine r_V1 d_X10_lost_12 (c_X10_looked hr hz hz64) rfl rfl rfl ⟨rfl, rfl⟩ (Nat.le_of_ble_eq_true rfl) ?_
  show pm_V _ _ _ (.int (nI 0) :: _) _ _ _
  refine r_istore_3 d_X10_lost_15 (Nat.le_of_ble_eq_true rfl) (fun w hw => by cases hw <;> rfl) ?_
  refine r_iload_3 d_X10_lost_16 ?_
  refine r_if_ge d_X10_lost_17 (fun c17 => ?_) (fun c17 => absurd (by decide) c17)
  clear c17
  refine r_aload_0 d_X10_lost_22 ?_
  refine r_iload_2 d_X10_lost_23 ?_
  refine r_V1 d_X10_lost_24 (c_X10_parts (by omega) hs.1 hkd3) rfl rfl rfl ⟨rfl, rfl⟩ (Nat.le_of_ble_eq_true rfl) ?_
  rw [hpk]
  show pm_V _ _ _ (.int (nI 0) :: _) _ _ _
  refine r_if_ne d_X10_lost_27 (fun c27 => absurd (by decide) c27) (fun c27 => ?_)
  clear c27
  refine r_aload_0 d_X10_lost_30 ?_
  refine r_push (v := nI 3) d_X10_lost_31 ?_
  refine r_V1 d_X10_lost_32 (c_X10_meets (w := 3) (by decide)) rfl rfl rfl ⟨rfl, rfl⟩ (Nat.le_of_ble_eq_true rfl) ?_
  refine r_ireturn d_X10_lost_35 ⟨_, rfl, rfl⟩ ?_
  exact ⟨rfl, rfl⟩
set_option maxRecDepth 10000 in
set_option maxHeartbeats 4000000 in
theorem c_X10_lost_nought {h : pm_H} {mi : Nat → Int32} {ml : Nat → Int64} {A : Nat → Nat → Int32} {B : Nat → Nat → Int64} {r z : Nat} (hr : r < 4) (hz : A 62 r = nI z) (hz64 : z ≤ 64) {cn c kd n k f lo hi : Nat} (hcn : mi 1 = nI cn) (hn10 : cn ≤ 10) (hcc : c < cn) (hs : m_cas A c kd n k f lo hi) (hpk : sp_pk kd = true) (hct : decide (0 < (sp_cn (fun q => A 63 (64 * r + q)) z)) = false) : pm_Cv e_X10_lost [.ref 44, .int (nI r), .int (nI c)] (pmM h mi ml A B) (.int (-3)) (m_meet h (upd mi 3 (nI (sp_cn (fun q => A 63 (64 * r + q)) z))) ml (va_up A 65 (pm_fc (fun j => nI (sp_cv (fun q => A 63 (64 * r + q)) j z)) (A 65) 31)) B 4) := by
  have hkd3 : kd ≤ 3 := by
    obtain ⟨-, ⟨h1 | h1, -⟩ | ⟨h1 | h1, -⟩⟩ := hs <;> omega
  refine pm_enter rfl (Nat.le_of_ble_eq_true rfl) ?_
  show pm_V e_X10_lost 0 [some (.ref 44), some (.int (nI r)), some (.int (nI c)), none, none, none, none, none, none] [] (pmM h mi ml A B) (0, 0) _
  refine r_aload_0 d_X10_lost_0 ?_
  refine r_iload_2 d_X10_lost_1 ?_
  refine r_V1 d_X10_lost_2 (c_X10_isCaster hcn hn10) rfl rfl rfl ⟨rfl, rfl⟩ (Nat.le_of_ble_eq_true rfl) ?_
  rw [pm_ci_of hcc (by omega)]
  show pm_V _ _ _ (.int (nI 1) :: _) _ _ _
  refine r_if_ne d_X10_lost_5 (fun c5 => ?_) (fun c5 => absurd c5 (by decide))
  clear c5
  refine r_aload_0 d_X10_lost_10 ?_
  refine r_iload_1 d_X10_lost_11 ?_
  refine r_V1 d_X10_lost_12 (c_X10_looked hr hz hz64) rfl rfl rfl ⟨rfl, rfl⟩ (Nat.le_of_ble_eq_true rfl) ?_
  show pm_V _ _ _ (.int (nI 0) :: _) _ _ _
  refine r_istore_3 d_X10_lost_15 (Nat.le_of_ble_eq_true rfl) (fun w hw => by cases hw <;> rfl) ?_
  refine r_iload_3 d_X10_lost_16 ?_
  refine r_if_ge d_X10_lost_17 (fun c17 => ?_) (fun c17 => absurd (by decide) c17)
  clear c17
  refine r_aload_0 d_X10_lost_22 ?_
  refine r_iload_2 d_X10_lost_23 ?_
  refine r_V1 d_X10_lost_24 (c_X10_parts (by omega) hs.1 hkd3) rfl rfl rfl ⟨rfl, rfl⟩ (Nat.le_of_ble_eq_true rfl) ?_
  rw [hpk]
  show pm_V _ _ _ (.int (nI 1) :: _) _ _ _
  refine r_if_ne d_X10_lost_27 (fun c27 => ?_) (fun c27 => absurd c27 (by decide))
  clear c27
  refine r_aload_0 d_X10_lost_36 ?_
  refine r_iload_1 d_X10_lost_37 ?_
  refine r_V1 d_X10_lost_38 (c_X10_counts hr hz hz64) rfl rfl rfl ⟨rfl, rfl⟩ (Nat.le_of_ble_eq_true rfl) ?_
  rw [hct]
  show pm_V _ _ _ (.int (nI 0) :: _) _ _ _
  refine r_if_ne d_X10_lost_41 (fun c41 => absurd (by decide) c41) (fun c41 => ?_)
  clear c41
  refine r_aload_0 d_X10_lost_44 ?_
  refine r_push (v := nI 4) d_X10_lost_45 ?_
  refine r_V1 d_X10_lost_46 (c_X10_meets (w := 4) (by decide)) rfl rfl rfl ⟨rfl, rfl⟩ (Nat.le_of_ble_eq_true rfl) ?_
  refine r_ireturn d_X10_lost_49 ⟨_, rfl, rfl⟩ ?_
  exact ⟨rfl, rfl⟩
/-- a caster with fewer stalks -/
def sp_fw (q : sp_Cs) (d : Nat) : sp_Cs := (q.1, q.2.1 - d, q.2.2)
theorem m_uu0 {f : Nat → Int32} {c : Nat} {x : Int32} (h : f c = x) : upd f c x = f := by
  funext j
  simp only [upd]
  by_cases e : j = c
  · rw [if_pos e, e, h]
  · rw [if_neg e]
theorem m_fw {A : Nat → Nat → Int32} {g : Nat → Int32} {c kd n k f lo hi d : Nat} (hs : m_cas A c kd n k f lo hi) (hk : kd = 1 ∨ kd = 3) (hd : 4 ≤ n - d) : m_cas (va_up (va_up A 66 g) 47 (upd (A 47) c (nI (n - d)))) c kd (n - d) k f lo hi := by
  obtain ⟨h1, h | ⟨h2, h3, h4, h5, h6, h7⟩⟩ := hs
  · exfalso; omega
  · exact ⟨h1, Or.inr ⟨hk, hd, by omega, if_pos rfl, h6, h7⟩⟩
set_option maxRecDepth 10000 in
set_option maxHeartbeats 4000000 in
theorem lp_X10_lost {h : pm_H} {mi : Nat → Int32} {ml : Nat → Int64} {A : Nat → Nat → Int32} {B : Nat → Nat → Int64} {r c kd n k f lo hi ct : Nat} {cv off : Nat → Nat} (hc : c < 10) (hs : m_cas A c kd n k f lo hi) (hkd : kd = 1 ∨ kd = 3) (ht : m_tm mi A cv ct) (ho : off = fun d => sp_off cv ct (sp_fw (kd, n, k, f, lo, hi) d)) {F : Option Value → pm_H → Prop} {b9 : Nat × Nat} (K : ∀ mx g B1 o8, m_ml ml mx → pm_V e_X10_lost 143 [some (.ref 44), some (.int (nI r)), some (.int (nI c)), some (.int (nI 0)), some (.int (nI n)), some (.int (nI (sp_nr off (min 8 (n - 4))).1)), some (.int (nI (sp_nr off (min 8 (n - 4))).2)), some (.int (nI ((min 8 (n - 4)) + 1))), o8] [] (pmM h mi mx (va_up (va_up A 66 g) 47 (upd (A 47) c (nI (n - (min 8 (n - 4)))))) B1) b9 F) : ∀ (e i : Nat) (mx : Nat → Int64) (g : Nat → Int32) (B1 : Nat → Nat → Int64) (o8 : Option Value), i + e = (min 8 (n - 4)) → m_ml ml mx → pm_V e_X10_lost 71 [some (.ref 44), some (.int (nI r)), some (.int (nI c)), some (.int (nI 0)), some (.int (nI n)), some (.int (nI (sp_nr off i).1)), some (.int (nI (sp_nr off i).2)), some (.int (nI (i + 1))), o8] [] (pmM h mi mx (va_up (va_up A 66 g) 47 (upd (A 47) c (nI (n - i)))) B1) b9 F := by
  have hkk := m_cas_kk hs
  have hn4 : 4 ≤ n ∧ n ≤ 60 := by
    rcases hkk with h | h | ⟨-, h⟩
    · omega
    · omega
    · exact ⟨h.1, h.2.1⟩
  intro e
  induction e with
  | zero =>
    intro i mx g B1 o8 hid hm
    have hi0 : i = min 8 (n - 4) := by omega
    rw [← hi0] at K
    refine r_iload_7 d_X10_lost_71 ?_
    refine r_push (v := nI 9) d_X10_lost_73 ?_
    refine r_icmp_ge d_X10_lost_75 (fun c75 => ?_) (fun c75 => ?_)
    · -- taken at 75
      have c75 : 9 ≤ (i + 1) := (nI_leI (a := 9) (b := (i + 1)) (by omega) (by omega)).mp c75
      exact K _ _ _ _ hm
    · -- not taken at 75
      have c75 : ¬ 9 ≤ (i + 1) := fun zz9 => c75 ((nI_leI (a := 9) (b := (i + 1)) (by omega) (by omega)).mpr zz9)
      refine r_iload_4 d_X10_lost_78 ?_
      refine r_iload_7 d_X10_lost_80 ?_
      refine r_isub d_X10_lost_82 ?_
      rw [pk_sub (a := n) (b := (i + 1)) (by omega)]
      refine r_push (v := nI 4) d_X10_lost_83 ?_
      refine r_icmp_lt d_X10_lost_84 (fun c84 => ?_) (fun c84 => ?_)
      · -- taken at 84
        have c84 : (n - (i + 1)) < 4 := (nI_ltI (a := (n - (i + 1))) (b := 4) (by omega) (by omega)).mp c84
        exact K _ _ _ _ hm
      · -- not taken at 84
        have c84 : ¬ (n - (i + 1)) < 4 := fun zz9 => c84 ((nI_ltI (a := (n - (i + 1))) (b := 4) (by omega) (by omega)).mpr zz9)
        exfalso; omega
  | succ e ih =>
    intro i mx g B1 o8 hid hm
    have hle : ∀ d, d ≤ n - 4 → off d ≤ 2000000 := fun d hd => by
      rw [ho]
      exact sp_off_le (m_Cs_kk (q := sp_fw (kd, n, k, f, lo, hi) d) (m_fw (n := n) (d := d) (g := g) hs hkd (by omega))) ht.2.1 ht.2.2.2.1
    have hl1 := sp_nr_le (off := off) (M := 2000000) (i := i) (fun j hj => hle j (by omega))
    have hl2 := hle (i + 1) (by omega)
    have hnr : sp_nr off (i + 1) = if off (i + 1) < (sp_nr off i).2 then (i + 1, off (i + 1)) else sp_nr off i := rfl
    have K1 := fun mx g B1 o6 hm => ih (i + 1) mx g B1 o6 (by omega) hm
    have eo : sp_off cv ct (sp_fw (kd, n, k, f, lo, hi) (i + 1)) = off (i + 1) := by rw [ho]
    have hs1 : m_Cs (va_up (va_up A 66 g) 47 (upd (A 47) c (nI (n - (i + 1))))) c (sp_fw (kd, n, k, f, lo, hi) (i + 1)) := m_fw (g := g) hs hkd (by omega)
    rw [hnr] at K1
    clear ih hnr
    generalize sp_nr off i = s at hl1 K1 ⊢
    generalize off (i + 1) = w9 at hl2 K1 eo
    refine r_iload_7 d_X10_lost_71 ?_
    refine r_push (v := nI 9) d_X10_lost_73 ?_
    refine r_icmp_ge d_X10_lost_75 (fun c75 => ?_) (fun c75 => ?_)
    · -- taken at 75
      have c75 : 9 ≤ (i + 1) := (nI_leI (a := 9) (b := (i + 1)) (by omega) (by omega)).mp c75
      exfalso; omega
    · -- not taken at 75
      have c75 : ¬ 9 ≤ (i + 1) := fun zz9 => c75 ((nI_leI (a := 9) (b := (i + 1)) (by omega) (by omega)).mpr zz9)
      refine r_iload_4 d_X10_lost_78 ?_
      refine r_iload_7 d_X10_lost_80 ?_
      refine r_isub d_X10_lost_82 ?_
      rw [pk_sub (a := n) (b := (i + 1)) (by omega)]
      refine r_push (v := nI 4) d_X10_lost_83 ?_
      refine r_icmp_lt d_X10_lost_84 (fun c84 => ?_) (fun c84 => ?_)
      · -- taken at 84
        have c84 : (n - (i + 1)) < 4 := (nI_ltI (a := (n - (i + 1))) (b := 4) (by omega) (by omega)).mp c84
        exfalso; omega
      · -- not taken at 84
        have c84 : ¬ (n - (i + 1)) < 4 := fun zz9 => c84 ((nI_ltI (a := (n - (i + 1))) (b := 4) (by omega) (by omega)).mpr zz9)
        refine r_aload_0 d_X10_lost_87 ?_
        refine r_get d_X10_lost_88 s10_sticks rfl rfl ?_
        refine r_iload_2 d_X10_lost_91 ?_
        refine r_iload_4 d_X10_lost_92 ?_
        refine r_iload_7 d_X10_lost_94 ?_
        refine r_isub d_X10_lost_96 ?_
        rw [pk_sub (a := n) (b := (i + 1)) (by omega)]
        refine r_iast d_X10_lost_97 rfl (pm_ixN (by omega) (by omega)) ?_
        rw [pmM_sticks, m_aua, show upd ((va_up (va_up A 66 g) 47 (upd (A 47) c (nI (n - i)))) 47) c (nI (n - (i + 1))) = upd (A 47) c (nI (n - (i + 1))) from m_uu (A 47) c _ _]
        refine r_aload_0 d_X10_lost_98 ?_
        refine r_iload_2 d_X10_lost_99 ?_
        refine r_V1p d_X10_lost_100 (c_X10_offOf (A := (va_up (va_up A 66 g) 47 (upd (A 47) c (nI (n - (i + 1)))))) (q := sp_fw (kd, n, k, f, lo, hi) (i + 1)) (c := c) hc hs1 ht) rfl rfl rfl ⟨rfl, rfl⟩ (Nat.le_of_ble_eq_true rfl) ?_
        rintro v9 h9 ⟨rfl, my, g2, B2, rfl, hmm⟩
        rw [eo, m_auc _ 66 47 _ _ _ (by decide)]
        show pm_V _ _ _ (.int (nI w9) :: _) _ _ _
        refine r_istore_8 d_X10_lost_103 (Nat.le_of_ble_eq_true rfl) (fun w hw => by cases hw <;> rfl) ?_
        refine r_iload_8 d_X10_lost_105 ?_
        refine r_iload_6 d_X10_lost_107 ?_
        refine r_icmp_ge d_X10_lost_109 (fun c109 => ?_) (fun c109 => ?_)
        · -- taken at 109
          have c109 : s.2 ≤ w9 := (nI_leI (a := s.2) (b := w9) (by omega) (by omega)).mp c109
          refine r_iload_5 d_X10_lost_117 ?_
          refine r_istore_5 d_X10_lost_119 (Nat.le_of_ble_eq_true rfl) (fun w hw => by cases hw <;> rfl) ?_
          refine r_iload_8 d_X10_lost_121 ?_
          refine r_iload_6 d_X10_lost_123 ?_
          refine r_icmp_ge d_X10_lost_125 (fun c125 => ?_) (fun c125 => ?_)
          · -- taken at 125
            have c125 : s.2 ≤ w9 := (nI_leI (a := s.2) (b := w9) (by omega) (by omega)).mp c125
            refine r_iload_6 d_X10_lost_133 ?_
            refine r_istore_6 d_X10_lost_135 (Nat.le_of_ble_eq_true rfl) (fun w hw => by cases hw <;> rfl) ?_
            refine r_iinc_7 d_X10_lost_137 (Nat.le_of_ble_eq_true rfl) (fun w hw => by cases hw <;> rfl) ?_
            rw [nI_1]
            refine r_goto d_X10_lost_140 ?_
            first
            | (rw [if_pos (by omega)] at K1; exact K1 my g2 B2 _ (fun q h3 h4 => (hmm q h3 h4).trans (hm q h3 h4)))
            | (rw [if_neg (by omega)] at K1; exact K1 my g2 B2 _ (fun q h3 h4 => (hmm q h3 h4).trans (hm q h3 h4)))
            | (exfalso; omega)
          · -- not taken at 125
            have c125 : ¬ s.2 ≤ w9 := fun zz9 => c125 ((nI_leI (a := s.2) (b := w9) (by omega) (by omega)).mpr zz9)
            refine r_iload_8 d_X10_lost_128 ?_
            refine r_goto d_X10_lost_130 ?_
            refine r_istore_6 d_X10_lost_135 (Nat.le_of_ble_eq_true rfl) (fun w hw => by cases hw <;> rfl) ?_
            refine r_iinc_7 d_X10_lost_137 (Nat.le_of_ble_eq_true rfl) (fun w hw => by cases hw <;> rfl) ?_
            rw [nI_1]
            refine r_goto d_X10_lost_140 ?_
            first
            | (rw [if_pos (by omega)] at K1; exact K1 my g2 B2 _ (fun q h3 h4 => (hmm q h3 h4).trans (hm q h3 h4)))
            | (rw [if_neg (by omega)] at K1; exact K1 my g2 B2 _ (fun q h3 h4 => (hmm q h3 h4).trans (hm q h3 h4)))
            | (exfalso; omega)
        · -- not taken at 109
          have c109 : ¬ s.2 ≤ w9 := fun zz9 => c109 ((nI_leI (a := s.2) (b := w9) (by omega) (by omega)).mpr zz9)
          refine r_iload_7 d_X10_lost_112 ?_
          refine r_goto d_X10_lost_114 ?_
          refine r_istore_5 d_X10_lost_119 (Nat.le_of_ble_eq_true rfl) (fun w hw => by cases hw <;> rfl) ?_
          refine r_iload_8 d_X10_lost_121 ?_
          refine r_iload_6 d_X10_lost_123 ?_
          refine r_icmp_ge d_X10_lost_125 (fun c125 => ?_) (fun c125 => ?_)
          · -- taken at 125
            have c125 : s.2 ≤ w9 := (nI_leI (a := s.2) (b := w9) (by omega) (by omega)).mp c125
            refine r_iload_6 d_X10_lost_133 ?_
            refine r_istore_6 d_X10_lost_135 (Nat.le_of_ble_eq_true rfl) (fun w hw => by cases hw <;> rfl) ?_
            refine r_iinc_7 d_X10_lost_137 (Nat.le_of_ble_eq_true rfl) (fun w hw => by cases hw <;> rfl) ?_
            rw [nI_1]
            refine r_goto d_X10_lost_140 ?_
            first
            | (rw [if_pos (by omega)] at K1; exact K1 my g2 B2 _ (fun q h3 h4 => (hmm q h3 h4).trans (hm q h3 h4)))
            | (rw [if_neg (by omega)] at K1; exact K1 my g2 B2 _ (fun q h3 h4 => (hmm q h3 h4).trans (hm q h3 h4)))
            | (exfalso; omega)
          · -- not taken at 125
            have c125 : ¬ s.2 ≤ w9 := fun zz9 => c125 ((nI_leI (a := s.2) (b := w9) (by omega) (by omega)).mpr zz9)
            refine r_iload_8 d_X10_lost_128 ?_
            refine r_goto d_X10_lost_130 ?_
            refine r_istore_6 d_X10_lost_135 (Nat.le_of_ble_eq_true rfl) (fun w hw => by cases hw <;> rfl) ?_
            refine r_iinc_7 d_X10_lost_137 (Nat.le_of_ble_eq_true rfl) (fun w hw => by cases hw <;> rfl) ?_
            rw [nI_1]
            refine r_goto d_X10_lost_140 ?_
            first
            | (rw [if_pos (by omega)] at K1; exact K1 my g2 B2 _ (fun q h3 h4 => (hmm q h3 h4).trans (hm q h3 h4)))
            | (rw [if_neg (by omega)] at K1; exact K1 my g2 B2 _ (fun q h3 h4 => (hmm q h3 h4).trans (hm q h3 h4)))
            | (exfalso; omega)
set_option maxRecDepth 10000 in
set_option maxHeartbeats 4000000 in
theorem c_X10_lost {h : pm_H} {mi : Nat → Int32} {ml : Nat → Int64} {A : Nat → Nat → Int32} {B : Nat → Nat → Int64} {r z : Nat} (hr : r < 4) (hz : A 62 r = nI z) (hz64 : z ≤ 64) {cn c kd n k f lo hi : Nat} (hcn : mi 1 = nI cn) (hn10 : cn ≤ 10) (hcc : c < cn) (hs : m_cas A c kd n k f lo hi) (hkd : kd = 1 ∨ kd = 3) (hct : decide (0 < (sp_cn (fun q => A 63 (64 * r + q)) z)) = true) : pm_Cl e_X10_lost [.ref 44, .int (nI r), .int (nI c)] (pmM h mi ml A B) (fun v9 h1 => v9 = some (.int (nI (sp_nr (fun d => sp_off (fun j => sp_cv (fun q => A 63 (64 * r + q)) j z) (sp_cn (fun q => A 63 (64 * r + q)) z) (sp_fw (kd, n, k, f, lo, hi) d)) (min 8 (n - 4))).1)) ∧ ∃ x mx f g B1, h1 = pmM h (upd mi 3 x) mx (va_up (va_up A 65 f) 66 g) B1 ∧ m_ml ml mx) := by
  have hkd3 : kd ≤ 3 := by
    obtain ⟨-, ⟨h1 | h1, -⟩ | ⟨h1 | h1, -⟩⟩ := hs <;> omega
  have hpk : sp_pk kd = true := by rcases hkd with rfl | rfl <;> rfl
  have ht := m_tm_of (mi := mi) (A := A) (r := r) hz64 (of_decide_eq_true hct)
  have hst : A 47 c = nI n := by
    obtain ⟨h1, h | ⟨h2, h3, h4, h5, h6, h7⟩⟩ := hs
    · exfalso; omega
    · exact h5
  refine pm_enter rfl (Nat.le_of_ble_eq_true rfl) ?_
  show pm_V e_X10_lost 0 [some (.ref 44), some (.int (nI r)), some (.int (nI c)), none, none, none, none, none, none] [] (pmM h mi ml A B) (0, 0) _
  refine r_aload_0 d_X10_lost_0 ?_
  refine r_iload_2 d_X10_lost_1 ?_
  refine r_V1 d_X10_lost_2 (c_X10_isCaster hcn hn10) rfl rfl rfl ⟨rfl, rfl⟩ (Nat.le_of_ble_eq_true rfl) ?_
  rw [pm_ci_of hcc (by omega)]
  show pm_V _ _ _ (.int (nI 1) :: _) _ _ _
  refine r_if_ne d_X10_lost_5 (fun c5 => ?_) (fun c5 => absurd c5 (by decide))
  clear c5
  refine r_aload_0 d_X10_lost_10 ?_
  refine r_iload_1 d_X10_lost_11 ?_
  refine r_V1 d_X10_lost_12 (c_X10_looked hr hz hz64) rfl rfl rfl ⟨rfl, rfl⟩ (Nat.le_of_ble_eq_true rfl) ?_
  show pm_V _ _ _ (.int (nI 0) :: _) _ _ _
  refine r_istore_3 d_X10_lost_15 (Nat.le_of_ble_eq_true rfl) (fun w hw => by cases hw <;> rfl) ?_
  refine r_iload_3 d_X10_lost_16 ?_
  refine r_if_ge d_X10_lost_17 (fun c17 => ?_) (fun c17 => absurd (by decide) c17)
  clear c17
  refine r_aload_0 d_X10_lost_22 ?_
  refine r_iload_2 d_X10_lost_23 ?_
  refine r_V1 d_X10_lost_24 (c_X10_parts (by omega) hs.1 hkd3) rfl rfl rfl ⟨rfl, rfl⟩ (Nat.le_of_ble_eq_true rfl) ?_
  rw [hpk]
  show pm_V _ _ _ (.int (nI 1) :: _) _ _ _
  refine r_if_ne d_X10_lost_27 (fun c27 => ?_) (fun c27 => absurd c27 (by decide))
  clear c27
  refine r_aload_0 d_X10_lost_36 ?_
  refine r_iload_1 d_X10_lost_37 ?_
  refine r_V1 d_X10_lost_38 (c_X10_counts hr hz hz64) rfl rfl rfl ⟨rfl, rfl⟩ (Nat.le_of_ble_eq_true rfl) ?_
  rw [hct]
  show pm_V _ _ _ (.int (nI 1) :: _) _ _ _
  refine r_if_ne d_X10_lost_41 (fun c41 => ?_) (fun c41 => absurd c41 (by decide))
  clear c41
  refine r_aload_0 d_X10_lost_50 ?_
  refine r_get d_X10_lost_51 s10_sticks rfl rfl ?_
  refine r_iload_2 d_X10_lost_54 ?_
  refine r_iald d_X10_lost_55 rfl (pm_ixN (by omega) (by omega)) ?_
  rw [show (va_up A 65 (pm_fc (fun j => nI (sp_cv (fun q => A 63 (64 * r + q)) j z)) (A 65) 31)) 47 c = nI n from hst]
  refine r_istore_4 d_X10_lost_56 (Nat.le_of_ble_eq_true rfl) (fun w hw => by cases hw <;> rfl) ?_
  refine r_push (v := nI 0) d_X10_lost_58 ?_
  refine r_istore_5 d_X10_lost_59 (Nat.le_of_ble_eq_true rfl) (fun w hw => by cases hw <;> rfl) ?_
  refine r_aload_0 d_X10_lost_61 ?_
  refine r_iload_2 d_X10_lost_62 ?_
  refine r_V1p d_X10_lost_63 (c_X10_offOf (A := (va_up A 65 (pm_fc (fun j => nI (sp_cv (fun q => A 63 (64 * r + q)) j z)) (A 65) 31))) (q := (kd, n, k, f, lo, hi)) (c := c) (by omega) hs ht) rfl rfl rfl ⟨rfl, rfl⟩ (Nat.le_of_ble_eq_true rfl) ?_
  rintro v9 h9 ⟨rfl, my, g2, B2, rfl, hmm⟩
  show pm_V _ _ _ (.int (nI (sp_off (fun j => sp_cv (fun q => A 63 (64 * r + q)) j z) (sp_cn (fun q => A 63 (64 * r + q)) z) (kd, n, k, f, lo, hi))) :: _) _ _ _
  refine r_istore_6 d_X10_lost_66 (Nat.le_of_ble_eq_true rfl) (fun w hw => by cases hw <;> rfl) ?_
  refine r_push (v := nI 1) d_X10_lost_68 ?_
  refine r_istore_7 d_X10_lost_69 (Nat.le_of_ble_eq_true rfl) (fun w hw => by cases hw <;> rfl) ?_
  have eA : pmM h (upd mi 3 (nI (sp_cn (fun q => A 63 (64 * r + q)) z))) my (va_up (va_up A 65 (pm_fc (fun j => nI (sp_cv (fun q => A 63 (64 * r + q)) j z)) (A 65) 31)) 66 g2) B2 = pmM h (upd mi 3 (nI (sp_cn (fun q => A 63 (64 * r + q)) z))) my (va_up (va_up (va_up A 65 (pm_fc (fun j => nI (sp_cv (fun q => A 63 (64 * r + q)) j z)) (A 65) 31)) 66 g2) 47 (upd ((va_up A 65 (pm_fc (fun j => nI (sp_cv (fun q => A 63 (64 * r + q)) j z)) (A 65) 31)) 47) c (nI (n - 0)))) B2 := by
    rw [show upd ((va_up A 65 (pm_fc (fun j => nI (sp_cv (fun q => A 63 (64 * r + q)) j z)) (A 65) 31)) 47) c (nI (n - 0)) = va_up (va_up A 65 (pm_fc (fun j => nI (sp_cv (fun q => A 63 (64 * r + q)) j z)) (A 65) 31)) 66 g2 47 from m_uu0 (f := A 47) hst, m_aus]
  rw [eA]
  refine lp_X10_lost (B := B) (mi := (upd mi 3 (nI (sp_cn (fun q => A 63 (64 * r + q)) z)))) (ml := my) (A := (va_up A 65 (pm_fc (fun j => nI (sp_cv (fun q => A 63 (64 * r + q)) j z)) (A 65) 31))) (cv := (fun j => sp_cv (fun q => A 63 (64 * r + q)) j z)) (ct := (sp_cn (fun q => A 63 (64 * r + q)) z)) (off := (fun d => sp_off (fun j => sp_cv (fun q => A 63 (64 * r + q)) j z) (sp_cn (fun q => A 63 (64 * r + q)) z) (sp_fw (kd, n, k, f, lo, hi) d))) (by omega) hs hkd ht rfl (fun mx g B1 o8 hm => ?_) (min 8 (n - 4)) 0 my g2 B2 none (by omega) (fun q _ _ => rfl)
  refine r_aload_0 d_X10_lost_143 ?_
  refine r_get d_X10_lost_144 s10_sticks rfl rfl ?_
  refine r_iload_2 d_X10_lost_147 ?_
  refine r_iload_4 d_X10_lost_148 ?_
  refine r_iast d_X10_lost_150 rfl (pm_ixN (by omega) (by omega)) ?_
  rw [pmM_sticks, m_aua, show upd (va_up (va_up (va_up A 65 (pm_fc (fun j => nI (sp_cv (fun q => A 63 (64 * r + q)) j z)) (A 65) 31)) 66 g) 47 (upd ((va_up A 65 (pm_fc (fun j => nI (sp_cv (fun q => A 63 (64 * r + q)) j z)) (A 65) 31)) 47) c (nI (n - (min 8 (n - 4))))) 47) c (nI n) = va_up (va_up A 65 (pm_fc (fun j => nI (sp_cv (fun q => A 63 (64 * r + q)) j z)) (A 65) 31)) 66 g 47 from (m_uu (A 47) c _ _).trans (m_uu0 (f := A 47) hst), m_aus]
  refine r_iload_5 d_X10_lost_151 ?_
  refine r_ireturn d_X10_lost_153 ⟨_, rfl, rfl⟩ ?_
  exact ⟨rfl, _, mx, _, g, B1, rfl, fun q h3 h4 => (hm q h3 h4).trans (hmm q h3 h4)⟩
