set_option maxRecDepth 10000 in
set_option maxHeartbeats 4000000 in
theorem c_X10_asked {h : pm_H} {mi : Nat → Int32} {ml : Nat → Int64} {A : Nat → Nat → Int32} {B : Nat → Nat → Int64} : pm_Cv e_X10_asked [.ref 44] (pmM h mi ml A B) (.long (ml 0)) (pmM h mi ml A B) := by
  refine pm_enter rfl (Nat.le_of_ble_eq_true rfl) ?_
  show pm_V e_X10_asked 0 [some (.ref 44)] [] (pmM h mi ml A B) (0, 0) _
  refine r_aload_0 d_X10_asked_0 ?_
  refine r_get d_X10_asked_1 s10_asked rfl rfl ?_
  refine r_lreturn d_X10_asked_4 rfl ?_
  exact ⟨rfl, rfl⟩
set_option maxRecDepth 10000 in
set_option maxHeartbeats 4000000 in
theorem c_X10_upper {h : pm_H} {mi : Nat → Int32} {ml : Nat → Int64} {A : Nat → Nat → Int32} {B : Nat → Nat → Int64} : pm_Cv e_X10_upper [.ref 44] (pmM h mi ml A B) (.long (ml 1)) (pmM h mi ml A B) := by
  refine pm_enter rfl (Nat.le_of_ble_eq_true rfl) ?_
  show pm_V e_X10_upper 0 [some (.ref 44)] [] (pmM h mi ml A B) (0, 0) _
  refine r_aload_0 d_X10_upper_0 ?_
  refine r_get d_X10_upper_1 s10_upper rfl rfl ?_
  refine r_lreturn d_X10_upper_4 rfl ?_
  exact ⟨rfl, rfl⟩
set_option maxRecDepth 10000 in
set_option maxHeartbeats 4000000 in
theorem c_X10_lower {h : pm_H} {mi : Nat → Int32} {ml : Nat → Int64} {A : Nat → Nat → Int32} {B : Nat → Nat → Int64} : pm_Cv e_X10_lower [.ref 44] (pmM h mi ml A B) (.long (ml 2)) (pmM h mi ml A B) := by
  refine pm_enter rfl (Nat.le_of_ble_eq_true rfl) ?_
  show pm_V e_X10_lower 0 [some (.ref 44)] [] (pmM h mi ml A B) (0, 0) _
  refine r_aload_0 d_X10_lower_0 ?_
  refine r_get d_X10_lower_1 s10_lower rfl rfl ?_
  refine r_lreturn d_X10_lower_4 rfl ?_
  exact ⟨rfl, rfl⟩
set_option maxRecDepth 10000 in
set_option maxHeartbeats 4000000 in
theorem c_X10_finding {h : pm_H} {mi : Nat → Int32} {ml : Nat → Int64} {A : Nat → Nat → Int32} {B : Nat → Nat → Int64} : pm_Cv e_X10_finding [.ref 44] (pmM h mi ml A B) (.int (mi 0)) (pmM h mi ml A B) := by
  refine pm_enter rfl (Nat.le_of_ble_eq_true rfl) ?_
  show pm_V e_X10_finding 0 [some (.ref 44)] [] (pmM h mi ml A B) (0, 0) _
  refine r_aload_0 d_X10_finding_0 ?_
  refine r_get d_X10_finding_1 s10_finding rfl rfl ?_
  refine r_ireturn d_X10_finding_4 ⟨_, rfl, rfl⟩ ?_
  exact ⟨rfl, rfl⟩
set_option maxRecDepth 10000 in
set_option maxHeartbeats 4000000 in
theorem c_X10_findings_bad {h : pm_H} {mi : Nat → Int32} {ml : Nat → Int64} {A : Nat → Nat → Int32} {B : Nat → Nat → Int64} {f : Int32} (hf : sp_in f 1 5 = false) : pm_Cv e_X10_findings [.ref 44, .int f] (pmM h mi ml A B) (.int (-1)) (pmM h mi ml A B) := by
  refine pm_enter rfl (Nat.le_of_ble_eq_true rfl) ?_
  show pm_V e_X10_findings 0 [some (.ref 44), some (.int f)] [] (pmM h mi ml A B) (0, 0) _
  refine r_iload_1 d_X10_findings_0 ?_
  refine r_push d_X10_findings_1 ?_
  refine r_push d_X10_findings_2 ?_
  refine r_S3 d_X10_findings_3 c_X10_in ⟨rfl, rfl⟩ (Nat.le_of_ble_eq_true rfl) ?_
  rw [hf]
  show pm_V _ _ _ (.int (nI 0) :: _) _ _ _
  refine r_if_eq d_X10_findings_6 (fun c6 => ?_) (fun c6 => absurd (by decide) c6)
  clear c6
  refine r_push d_X10_findings_18 ?_
  refine r_ireturn d_X10_findings_19 ⟨_, rfl, rfl⟩ ?_
  exact ⟨rfl, rfl⟩
set_option maxRecDepth 10000 in
set_option maxHeartbeats 4000000 in
theorem c_X10_findings {h : pm_H} {mi : Nat → Int32} {ml : Nat → Int64} {A : Nat → Nat → Int32} {B : Nat → Nat → Int64} {f : Nat} (hf : 1 ≤ f ∧ f ≤ 5) : pm_Cv e_X10_findings [.ref 44, .int (nI f)] (pmM h mi ml A B) (.int (A 45 f)) (pmM h mi ml A B) := by
  refine pm_enter rfl (Nat.le_of_ble_eq_true rfl) ?_
  show pm_V e_X10_findings 0 [some (.ref 44), some (.int (nI f))] [] (pmM h mi ml A B) (0, 0) _
  refine r_iload_1 d_X10_findings_0 ?_
  refine r_push (v := nI 1) d_X10_findings_1 ?_
  refine r_push (v := nI 5) d_X10_findings_2 ?_
  refine r_S3 d_X10_findings_3 (c_X10_inN (by omega) (by omega) (by omega)) ⟨rfl, rfl⟩ (Nat.le_of_ble_eq_true rfl) ?_
  refine r_if_eq d_X10_findings_6 (fun c6 => absurd c6 (by decide)) (fun c6 => ?_)
  clear c6
  refine r_aload_0 d_X10_findings_9 ?_
  refine r_get d_X10_findings_10 s10_findings rfl rfl ?_
  refine r_iload_1 d_X10_findings_13 ?_
  refine r_iald d_X10_findings_14 rfl (pm_ixN (by omega) (by omega)) ?_
  refine r_goto d_X10_findings_15 ?_
  refine r_ireturn d_X10_findings_19 ⟨_, rfl, rfl⟩ ?_
  exact ⟨rfl, rfl⟩
set_option maxRecDepth 10000 in
set_option maxHeartbeats 4000000 in
theorem lp_X10_record {h : pm_H} {mi : Nat → Int32} {ml : Nat → Int64} {A : Nat → Nat → Int32} {B : Nat → Nat → Int64} {r c m kd n k f lo hi : Nat} {s : Int64} (hr : r < 4) (hc : c < 10) (hm : m ≤ 64) (hs : m_cas A c kd n k f lo hi) {F : Option Value → pm_H → Prop} {b : Nat × Nat} (K : pm_V e_X10_record 85 [some (.ref 44), some (.int (nI r)), some (.int (nI c)), some (.long s), none, some (.int (nI m)), some (.int (nI 64))] [] (pmM h mi (vp_updL ml 5 (sp_sd kd n k f lo hi s (if 64 < m then 64 else m))) (va_up A 63 (m_bk (A 63) (64 * r) (fun j => if j < m then nI ((sp_ln kd n k f lo hi s) j) else nI 0) 64)) B) b F) : ∀ (d i : Nat), i + d = 64 → pm_V e_X10_record 44 [some (.ref 44), some (.int (nI r)), some (.int (nI c)), some (.long s), none, some (.int (nI m)), some (.int (nI i))] [] (pmM h mi (vp_updL ml 5 (sp_sd kd n k f lo hi s (if i < m then i else m))) (va_up A 63 (m_bk (A 63) (64 * r) (fun j => if j < m then nI ((sp_ln kd n k f lo hi s) j) else nI 0) i)) B) b F := by
  intro d
  induction d with
  | zero =>
    intro i hid
    obtain rfl : i = 64 := by omega
    refine r_iload_6 d_X10_record_44 ?_
    refine r_push (v := nI 64) d_X10_record_46 ?_
    refine r_icmp_ge d_X10_record_48 (fun c48 => ?_) (fun c48 => absurd (by decide) c48)
    clear c48
    exact K
  | succ d ih =>
    intro i hid
    have hle := sp_draw_le (m_cas_k hs) (sp_sd kd n k f lo hi s i)
    have eln : sp_ln kd n k f lo hi s i = (sp_draw kd n k f lo hi (sp_sd kd n k f lo hi s i)).1 := rfl
    have ih9 := ih (i + 1) (by omega)
    rcases (by omega : i < m ∨ m ≤ i) with him | him
    · rw [if_pos him]
      rw [show (if i + 1 < m then i + 1 else m) = i + 1 by split <;> omega] at ih9
      refine r_iload_6 d_X10_record_44 ?_
      refine r_push (v := nI 64) d_X10_record_46 ?_
      refine r_icmp_ge d_X10_record_48 (fun c48 => ?_) (fun c48 => ?_)
      · -- taken at 48
        have c48 : 64 ≤ i := (nI_leI (a := 64) (b := i) (by omega) (by omega)).mp c48
        exfalso; omega
      · -- not taken at 48
        have c48 : ¬ 64 ≤ i := fun zz9 => c48 ((nI_leI (a := 64) (b := i) (by omega) (by omega)).mpr zz9)
        refine r_aload_0 d_X10_record_51 ?_
        refine r_get d_X10_record_52 s10_rows rfl rfl ?_
        refine r_push (v := nI 64) d_X10_record_55 ?_
        refine r_iload_1 d_X10_record_57 ?_
        refine r_imul d_X10_record_58 ?_
        rw [pk_mul]
        refine r_iload_6 d_X10_record_59 ?_
        refine r_iadd d_X10_record_61 ?_
        rw [nI_add]
        refine r_iload_6 d_X10_record_62 ?_
        refine r_iload_5 d_X10_record_64 ?_
        refine r_icmp_ge d_X10_record_66 (fun c66 => ?_) (fun c66 => ?_)
        · -- taken at 66
          have c66 : m ≤ i := (nI_leI (a := m) (b := i) (by omega) (by omega)).mp c66
          exfalso; omega
        · -- not taken at 66
          have c66 : ¬ m ≤ i := fun zz9 => c66 ((nI_leI (a := m) (b := i) (by omega) (by omega)).mpr zz9)
          refine r_aload_0 d_X10_record_69 ?_
          refine r_iload_2 d_X10_record_70 ?_
          refine r_V1 d_X10_record_71 (c_X10_draws hc (m_cas_up (by decide) hs)) rfl rfl rfl ⟨rfl, rfl⟩ (Nat.le_of_ble_eq_true rfl) ?_
          rw [pm_luu, show vp_updL ml 5 (sp_sd kd n k f lo hi s i) 5 = sp_sd kd n k f lo hi s i from rfl, ← sp_sd_s, ← eln]
          refine r_goto d_X10_record_74 ?_
          refine r_iast d_X10_record_78 rfl (pm_ixN (by omega) (by omega)) ?_
          rw [pmM_rows, m_aua, show va_up A 63 (m_bk (A 63) (64 * r) (fun j => if j < m then nI ((sp_ln kd n k f lo hi s) j) else nI 0) i) 63 = m_bk (A 63) (64 * r) (fun j => if j < m then nI ((sp_ln kd n k f lo hi s) j) else nI 0) i from rfl, show nI (sp_ln kd n k f lo hi s i) = (fun j => if j < m then nI ((sp_ln kd n k f lo hi s) j) else nI 0) i from (if_pos him).symm, m_bk_s]
          refine r_iinc_6 d_X10_record_79 (Nat.le_of_ble_eq_true rfl) (fun w hw => by cases hw <;> rfl) ?_
          rw [nI_1]
          refine r_goto d_X10_record_82 ?_
          exact ih9
    · rw [if_neg (by omega)]
      rw [if_neg (by omega)] at ih9
      refine r_iload_6 d_X10_record_44 ?_
      refine r_push (v := nI 64) d_X10_record_46 ?_
      refine r_icmp_ge d_X10_record_48 (fun c48 => ?_) (fun c48 => ?_)
      · -- taken at 48
        have c48 : 64 ≤ i := (nI_leI (a := 64) (b := i) (by omega) (by omega)).mp c48
        exfalso; omega
      · -- not taken at 48
        have c48 : ¬ 64 ≤ i := fun zz9 => c48 ((nI_leI (a := 64) (b := i) (by omega) (by omega)).mpr zz9)
        refine r_aload_0 d_X10_record_51 ?_
        refine r_get d_X10_record_52 s10_rows rfl rfl ?_
        refine r_push (v := nI 64) d_X10_record_55 ?_
        refine r_iload_1 d_X10_record_57 ?_
        refine r_imul d_X10_record_58 ?_
        rw [pk_mul]
        refine r_iload_6 d_X10_record_59 ?_
        refine r_iadd d_X10_record_61 ?_
        rw [nI_add]
        refine r_iload_6 d_X10_record_62 ?_
        refine r_iload_5 d_X10_record_64 ?_
        refine r_icmp_ge d_X10_record_66 (fun c66 => ?_) (fun c66 => ?_)
        · -- taken at 66
          have c66 : m ≤ i := (nI_leI (a := m) (b := i) (by omega) (by omega)).mp c66
          refine r_push (v := nI 0) d_X10_record_77 ?_
          refine r_iast d_X10_record_78 rfl (pm_ixN (by omega) (by omega)) ?_
          rw [pmM_rows, m_aua, show va_up A 63 (m_bk (A 63) (64 * r) (fun j => if j < m then nI ((sp_ln kd n k f lo hi s) j) else nI 0) i) 63 = m_bk (A 63) (64 * r) (fun j => if j < m then nI ((sp_ln kd n k f lo hi s) j) else nI 0) i from rfl, show upd (m_bk (A 63) (64 * r) (fun j => if j < m then nI ((sp_ln kd n k f lo hi s) j) else nI 0) i) (64 * r + i) (nI 0) = m_bk (A 63) (64 * r) (fun j => if j < m then nI ((sp_ln kd n k f lo hi s) j) else nI 0) (i + 1) from (by rw [← m_bk_s]; show _ = upd _ _ (if i < m then _ else nI 0); rw [if_neg (show ¬ i < m by omega)])]
          refine r_iinc_6 d_X10_record_79 (Nat.le_of_ble_eq_true rfl) (fun w hw => by cases hw <;> rfl) ?_
          rw [nI_1]
          refine r_goto d_X10_record_82 ?_
          exact ih9
        · -- not taken at 66
          have c66 : ¬ m ≤ i := fun zz9 => c66 ((nI_leI (a := m) (b := i) (by omega) (by omega)).mpr zz9)
          exfalso; omega
set_option maxRecDepth 10000 in
set_option maxHeartbeats 4000000 in
theorem c_X10_record_bad1 {h : pm_H} {mi : Nat → Int32} {ml : Nat → Int64} {A : Nat → Nat → Int32} {B : Nat → Nat → Int64} {r c m : Int32} {s : Int64} (hr : sp_in r 0 3 = false) : pm_Cv e_X10_record [.ref 44, .int r, .int c, .long s, .int m] (pmM h mi ml A B) (.int (-1)) (pmM h mi ml A B) := by
  refine pm_enter rfl (Nat.le_of_ble_eq_true rfl) ?_
  show pm_V e_X10_record 0 [some (.ref 44), some (.int r), some (.int c), some (.long s), none, some (.int m), none] [] (pmM h mi ml A B) (0, 0) _
  refine r_iload_1 d_X10_record_0 ?_
  refine r_S1 d_X10_record_1 c_X10_isRow ⟨rfl, rfl⟩ (Nat.le_of_ble_eq_true rfl) ?_
  rw [hr]
  show pm_V _ _ _ (.int (nI 0) :: _) _ _ _
  refine r_if_eq d_X10_record_4 (fun c4 => ?_) (fun c4 => absurd (by decide) c4)
  clear c4
  refine r_push d_X10_record_26 ?_
  refine r_ireturn d_X10_record_27 ⟨_, rfl, rfl⟩ ?_
  exact ⟨rfl, rfl⟩
set_option maxRecDepth 10000 in
set_option maxHeartbeats 4000000 in
theorem c_X10_record_bad2 {h : pm_H} {mi : Nat → Int32} {ml : Nat → Int64} {A : Nat → Nat → Int32} {B : Nat → Nat → Int64} {r c m : Int32} {s : Int64} {cn : Nat} (hcn : mi 1 = nI cn) (hn10 : cn ≤ 10) (hr : sp_in r 0 3 = true) (hci : pm_ci c cn = none) : pm_Cv e_X10_record [.ref 44, .int r, .int c, .long s, .int m] (pmM h mi ml A B) (.int (-1)) (pmM h mi ml A B) := by
  refine pm_enter rfl (Nat.le_of_ble_eq_true rfl) ?_
  show pm_V e_X10_record 0 [some (.ref 44), some (.int r), some (.int c), some (.long s), none, some (.int m), none] [] (pmM h mi ml A B) (0, 0) _
  refine r_iload_1 d_X10_record_0 ?_
  refine r_S1 d_X10_record_1 c_X10_isRow ⟨rfl, rfl⟩ (Nat.le_of_ble_eq_true rfl) ?_
  rw [hr]
  show pm_V _ _ _ (.int (nI 1) :: _) _ _ _
  refine r_if_eq d_X10_record_4 (fun c4 => absurd c4 (by decide)) (fun c4 => ?_)
  clear c4
  refine r_aload_0 d_X10_record_7 ?_
  refine r_iload_2 d_X10_record_8 ?_
  refine r_V1 d_X10_record_9 (c_X10_isCaster hcn hn10) rfl rfl rfl ⟨rfl, rfl⟩ (Nat.le_of_ble_eq_true rfl) ?_
  rw [hci]
  show pm_V _ _ _ (.int (nI 0) :: _) _ _ _
  refine r_if_eq d_X10_record_12 (fun c12 => ?_) (fun c12 => absurd (by decide) c12)
  clear c12
  refine r_push d_X10_record_26 ?_
  refine r_ireturn d_X10_record_27 ⟨_, rfl, rfl⟩ ?_
  exact ⟨rfl, rfl⟩
set_option maxRecDepth 10000 in
set_option maxHeartbeats 4000000 in
theorem c_X10_record_bad3 {h : pm_H} {mi : Nat → Int32} {ml : Nat → Int64} {A : Nat → Nat → Int32} {B : Nat → Nat → Int64} {r c m : Int32} {s : Int64} {cn j : Nat} (hcn : mi 1 = nI cn) (hn10 : cn ≤ 10) (hr : sp_in r 0 3 = true) (hci : pm_ci c cn = some j) (hm : sp_in m 0 64 = false) : pm_Cv e_X10_record [.ref 44, .int r, .int c, .long s, .int m] (pmM h mi ml A B) (.int (-1)) (pmM h mi ml A B) := by
  refine pm_enter rfl (Nat.le_of_ble_eq_true rfl) ?_
  show pm_V e_X10_record 0 [some (.ref 44), some (.int r), some (.int c), some (.long s), none, some (.int m), none] [] (pmM h mi ml A B) (0, 0) _
  refine r_iload_1 d_X10_record_0 ?_
  refine r_S1 d_X10_record_1 c_X10_isRow ⟨rfl, rfl⟩ (Nat.le_of_ble_eq_true rfl) ?_
  rw [hr]
  show pm_V _ _ _ (.int (nI 1) :: _) _ _ _
  refine r_if_eq d_X10_record_4 (fun c4 => absurd c4 (by decide)) (fun c4 => ?_)
  clear c4
  refine r_aload_0 d_X10_record_7 ?_
  refine r_iload_2 d_X10_record_8 ?_
  refine r_V1 d_X10_record_9 (c_X10_isCaster hcn hn10) rfl rfl rfl ⟨rfl, rfl⟩ (Nat.le_of_ble_eq_true rfl) ?_
  rw [hci]
  show pm_V _ _ _ (.int (nI 1) :: _) _ _ _
  refine r_if_eq d_X10_record_12 (fun c12 => absurd c12 (by decide)) (fun c12 => ?_)
  clear c12
  refine r_iload_5 d_X10_record_15 ?_
  refine r_push d_X10_record_17 ?_
  refine r_push d_X10_record_18 ?_
  refine r_S3 d_X10_record_20 c_X10_in ⟨rfl, rfl⟩ (Nat.le_of_ble_eq_true rfl) ?_
  rw [hm]
  show pm_V _ _ _ (.int (nI 0) :: _) _ _ _
  refine r_if_ne d_X10_record_23 (fun c23 => absurd (by decide) c23) (fun c23 => ?_)
  clear c23
  refine r_push d_X10_record_26 ?_
  refine r_ireturn d_X10_record_27 ⟨_, rfl, rfl⟩ ?_
  exact ⟨rfl, rfl⟩
set_option maxRecDepth 10000 in
set_option maxHeartbeats 4000000 in
theorem c_X10_record {h : pm_H} {mi : Nat → Int32} {ml : Nat → Int64} {A : Nat → Nat → Int32} {B : Nat → Nat → Int64} {r c m cn kd n k f lo hi : Nat} {s : Int64} (hr : r < 4) (hcn : mi 1 = nI cn) (hn10 : cn ≤ 10) (hj : c < cn) (hm : m ≤ 64) (hs : m_cas A c kd n k f lo hi) : pm_Cv e_X10_record [.ref 44, .int (nI r), .int (nI c), .long s, .int (nI m)] (pmM h mi ml A B) (.int (nI m)) (pmM h mi (vp_updL ml 5 (sp_sd kd n k f lo hi s m)) (va_up (va_up A 62 (upd (A 62) r (nI m))) 63 (m_bk (A 63) (64 * r) (fun j => if j < m then nI ((sp_ln kd n k f lo hi s) j) else nI 0) 64)) B) := by
  have hci := pm_ci_of (cn := cn) hj (by omega)
  refine pm_enter rfl (Nat.le_of_ble_eq_true rfl) ?_
  show pm_V e_X10_record 0 [some (.ref 44), some (.int (nI r)), some (.int (nI c)), some (.long s), none, some (.int (nI m)), none] [] (pmM h mi ml A B) (0, 0) _
  refine r_iload_1 d_X10_record_0 ?_
  refine r_S1 d_X10_record_1 (c_X10_isRowN (by omega)) ⟨rfl, rfl⟩ (Nat.le_of_ble_eq_true rfl) ?_
  refine r_if_eq d_X10_record_4 (fun c4 => absurd c4 (by decide)) (fun c4 => ?_)
  clear c4
  refine r_aload_0 d_X10_record_7 ?_
  refine r_iload_2 d_X10_record_8 ?_
  refine r_V1 d_X10_record_9 (c_X10_isCaster hcn hn10) rfl rfl rfl ⟨rfl, rfl⟩ (Nat.le_of_ble_eq_true rfl) ?_
  rw [hci]
  show pm_V _ _ _ (.int (nI 1) :: _) _ _ _
  refine r_if_eq d_X10_record_12 (fun c12 => absurd c12 (by decide)) (fun c12 => ?_)
  clear c12
  refine r_iload_5 d_X10_record_15 ?_
  refine r_push (v := nI 0) d_X10_record_17 ?_
  refine r_push (v := nI 64) d_X10_record_18 ?_
  refine r_S3 d_X10_record_20 (c_X10_inN (by omega) (by omega) (by omega)) ⟨rfl, rfl⟩ (Nat.le_of_ble_eq_true rfl) ?_
  refine r_if_ne d_X10_record_23 (fun c23 => ?_) (fun c23 => absurd c23 (by decide))
  clear c23
  refine r_aload_0 d_X10_record_28 ?_
  refine r_get d_X10_record_29 s10_sizes rfl rfl ?_
  refine r_iload_1 d_X10_record_32 ?_
  refine r_iload_5 d_X10_record_33 ?_
  refine r_iast d_X10_record_35 rfl (pm_ixN (by omega) (by omega)) ?_
  rw [pmM_sizes]
  refine r_aload_0 d_X10_record_36 ?_
  refine r_lload_3 d_X10_record_37 ?_
  refine r_put d_X10_record_38 s10_seed rfl (Nat.le_of_ble_eq_true rfl) ⟨rfl, rfl⟩ ?_
  rw [pmM_seed]
  refine r_push (v := nI 0) d_X10_record_41 ?_
  refine r_istore_6 d_X10_record_42 (Nat.le_of_ble_eq_true rfl) (fun w hw => by cases hw <;> rfl) ?_
  have K := lp_X10_record (h := h) (mi := mi) (ml := ml) (A := va_up A 62 (upd (A 62) r (nI m))) (B := B) (r := r) (c := c) (m := m) (s := s) (kd := kd) (n := n) (k := k) (f := f) (lo := lo) (hi := hi) hr (by omega) hm (m_cas_up (by decide) hs) (b := (0, 0)) (F := fun v h1 => v = some (.int (nI m)) ∧ h1 = (pmM h mi (vp_updL ml 5 (sp_sd kd n k f lo hi s m)) (va_up (va_up A 62 (upd (A 62) r (nI m))) 63 (m_bk (A 63) (64 * r) (fun j => if j < m then nI ((sp_ln kd n k f lo hi s) j) else nI 0) 64)) B)) ?_ 64 0 (by omega)
  · rw [m_bk_0, m_aus, show sp_sd kd n k f lo hi s (if 0 < m then 0 else m) = s by (rw [show (if 0 < m then 0 else m) = 0 by split <;> omega, sp_sd])] at K
    exact K
  · refine r_iload_5 d_X10_record_85 ?_
    refine r_ireturn d_X10_record_87 ⟨_, rfl, rfl⟩ ?_
    exact ⟨rfl, by rw [if_neg (show ¬ 64 < m by omega)]; rfl⟩
set_option maxRecDepth 10000 in
set_option maxHeartbeats 4000000 in
theorem c_X10_copy_bad1 {h : pm_H} {mi : Nat → Int32} {ml : Nat → Int64} {A : Nat → Nat → Int32} {B : Nat → Nat → Int64} {r i t j n : Int32} (hr : sp_in r 0 3 = false) : pm_Cv e_X10_copy [.ref 44, .int r, .int i, .int t, .int j, .int n] (pmM h mi ml A B) (.int (-1)) (pmM h mi ml A B) := by
  refine pm_enter rfl (Nat.le_of_ble_eq_true rfl) ?_
  show pm_V e_X10_copy 0 [some (.ref 44), some (.int r), some (.int i), some (.int t), some (.int j), some (.int n), none] [] (pmM h mi ml A B) (0, 0) _
  refine r_iload_1 d_X10_copy_0 ?_
  refine r_S1 d_X10_copy_1 c_X10_isRow ⟨rfl, rfl⟩ (Nat.le_of_ble_eq_true rfl) ?_
  rw [hr]
  show pm_V _ _ _ (.int (nI 0) :: _) _ _ _
  refine r_if_eq d_X10_copy_4 (fun c4 => ?_) (fun c4 => absurd (by decide) c4)
  clear c4
  refine r_push d_X10_copy_14 ?_
  refine r_ireturn d_X10_copy_15 ⟨_, rfl, rfl⟩ ?_
  exact ⟨rfl, rfl⟩
set_option maxRecDepth 10000 in
set_option maxHeartbeats 4000000 in
theorem c_X10_copy_bad2 {h : pm_H} {mi : Nat → Int32} {ml : Nat → Int64} {A : Nat → Nat → Int32} {B : Nat → Nat → Int64} {r i t j n : Int32} (hr : sp_in r 0 3 = true) (ht : sp_in t 0 3 = false) : pm_Cv e_X10_copy [.ref 44, .int r, .int i, .int t, .int j, .int n] (pmM h mi ml A B) (.int (-1)) (pmM h mi ml A B) := by
  refine pm_enter rfl (Nat.le_of_ble_eq_true rfl) ?_
  show pm_V e_X10_copy 0 [some (.ref 44), some (.int r), some (.int i), some (.int t), some (.int j), some (.int n), none] [] (pmM h mi ml A B) (0, 0) _
  refine r_iload_1 d_X10_copy_0 ?_
  refine r_S1 d_X10_copy_1 c_X10_isRow ⟨rfl, rfl⟩ (Nat.le_of_ble_eq_true rfl) ?_
  rw [hr]
  show pm_V _ _ _ (.int (nI 1) :: _) _ _ _
  refine r_if_eq d_X10_copy_4 (fun c4 => absurd c4 (by decide)) (fun c4 => ?_)
  clear c4
  refine r_iload_3 d_X10_copy_7 ?_
  refine r_S1 d_X10_copy_8 c_X10_isRow ⟨rfl, rfl⟩ (Nat.le_of_ble_eq_true rfl) ?_
  rw [ht]
  show pm_V _ _ _ (.int (nI 0) :: _) _ _ _
  refine r_if_ne d_X10_copy_11 (fun c11 => absurd (by decide) c11) (fun c11 => ?_)
  clear c11
  refine r_push d_X10_copy_14 ?_
  refine r_ireturn d_X10_copy_15 ⟨_, rfl, rfl⟩ ?_
  exact ⟨rfl, rfl⟩
set_option maxRecDepth 10000 in
set_option maxHeartbeats 4000000 in
theorem c_X10_copy_neg {h : pm_H} {mi : Nat → Int32} {ml : Nat → Int64} {A : Nat → Nat → Int32} {B : Nat → Nat → Int64} {r i t j n : Int32} (hr : sp_in r 0 3 = true) (ht : sp_in t 0 3 = true) (hn : n < 0) : pm_Cv e_X10_copy [.ref 44, .int r, .int i, .int t, .int j, .int n] (pmM h mi ml A B) (.int (-3)) (m_meet h mi ml A B 5) := by
  refine pm_enter rfl (Nat.le_of_ble_eq_true rfl) ?_
  show pm_V e_X10_copy 0 [some (.ref 44), some (.int r), some (.int i), some (.int t), some (.int j), some (.int n), none] [] (pmM h mi ml A B) (0, 0) _
  refine r_iload_1 d_X10_copy_0 ?_
  refine r_S1 d_X10_copy_1 c_X10_isRow ⟨rfl, rfl⟩ (Nat.le_of_ble_eq_true rfl) ?_
  rw [hr]
  show pm_V _ _ _ (.int (nI 1) :: _) _ _ _
  refine r_if_eq d_X10_copy_4 (fun c4 => absurd c4 (by decide)) (fun c4 => ?_)
  clear c4
  refine r_iload_3 d_X10_copy_7 ?_
  refine r_S1 d_X10_copy_8 c_X10_isRow ⟨rfl, rfl⟩ (Nat.le_of_ble_eq_true rfl) ?_
  rw [ht]
  show pm_V _ _ _ (.int (nI 1) :: _) _ _ _
  refine r_if_ne d_X10_copy_11 (fun c11 => ?_) (fun c11 => absurd c11 (by decide))
  clear c11
  refine r_iload_5 d_X10_copy_16 ?_
  refine r_if_ge d_X10_copy_18 (fun c18 => ?_) (fun c18 => ?_)
  · -- taken at 18
    exact absurd hn (Int32.not_lt.mpr c18)
  · -- not taken at 18
    refine r_aload_0 d_X10_copy_21 ?_
    refine r_push d_X10_copy_22 ?_
    refine r_V1 d_X10_copy_23 (c_X10_meets (w := 5) (by decide)) rfl rfl rfl ⟨rfl, rfl⟩ (Nat.le_of_ble_eq_true rfl) ?_
    refine r_ireturn d_X10_copy_26 ⟨_, rfl, rfl⟩ ?_
    exact ⟨rfl, rfl⟩
set_option maxRecDepth 10000 in
set_option maxHeartbeats 4000000 in
theorem c_X10_copy_none1 {h : pm_H} {mi : Nat → Int32} {ml : Nat → Int64} {A : Nat → Nat → Int32} {B : Nat → Nat → Int64} {r t m : Nat} {i j : Int32} (hr : r < 4) (ht : t < 4) (hm : m < 2 ^ 31) (hz : A 62 r = -9) : pm_Cv e_X10_copy [.ref 44, .int (nI r), .int i, .int (nI t), .int j, .int (nI m)] (pmM h mi ml A B) (.int (-3)) (m_meet h mi ml A B 1) := by
  refine pm_enter rfl (Nat.le_of_ble_eq_true rfl) ?_
  show pm_V e_X10_copy 0 [some (.ref 44), some (.int (nI r)), some (.int i), some (.int (nI t)), some (.int j), some (.int (nI m)), none] [] (pmM h mi ml A B) (0, 0) _
  refine r_iload_1 d_X10_copy_0 ?_
  refine r_S1 d_X10_copy_1 (c_X10_isRowN (by omega)) ⟨rfl, rfl⟩ (Nat.le_of_ble_eq_true rfl) ?_
  refine r_if_eq d_X10_copy_4 (fun c4 => absurd c4 (by decide)) (fun c4 => ?_)
  clear c4
  refine r_iload_3 d_X10_copy_7 ?_
  refine r_S1 d_X10_copy_8 (c_X10_isRowN (by omega)) ⟨rfl, rfl⟩ (Nat.le_of_ble_eq_true rfl) ?_
  refine r_if_ne d_X10_copy_11 (fun c11 => ?_) (fun c11 => absurd c11 (by decide))
  clear c11
  refine r_iload_5 d_X10_copy_16 ?_
  refine r_if_ge d_X10_copy_18 (fun c18 => ?_) (fun c18 => ?_)
  · -- taken at 18
    have c18 : 0 ≤ m := (nI_leI (a := 0) (b := m) (by omega) (by omega)).mp c18
    refine r_aload_0 d_X10_copy_27 ?_
    refine r_get d_X10_copy_28 s10_sizes rfl rfl ?_
    refine r_iload_1 d_X10_copy_31 ?_
    refine r_iald d_X10_copy_32 rfl (pm_ixN (by omega) (by omega)) ?_
    rw [hz]
    refine r_if_lt d_X10_copy_33 (fun c33 => ?_) (fun c33 => ?_)
    · -- taken at 33
      refine r_aload_0 d_X10_copy_45 ?_
      refine r_push (v := nI 1) d_X10_copy_46 ?_
      refine r_V1 d_X10_copy_47 (c_X10_meets (w := 1) (by decide)) rfl rfl rfl ⟨rfl, rfl⟩ (Nat.le_of_ble_eq_true rfl) ?_
      refine r_ireturn d_X10_copy_50 ⟨_, rfl, rfl⟩ ?_
      exact ⟨rfl, rfl⟩
    · -- not taken at 33
      exact absurd (show (-9 : Int32) < 0 by decide) c33
  · -- not taken at 18
    have c18 : ¬ 0 ≤ m := fun zz9 => c18 ((nI_leI (a := 0) (b := m) (by omega) (by omega)).mpr zz9)
    exfalso; omega
set_option maxRecDepth 10000 in
set_option maxHeartbeats 4000000 in
theorem c_X10_copy_none2 {h : pm_H} {mi : Nat → Int32} {ml : Nat → Int64} {A : Nat → Nat → Int32} {B : Nat → Nat → Int64} {r t m : Nat} {i j : Int32} (hr : r < 4) (ht : t < 4) (hm : m < 2 ^ 31) {z : Nat} (hz : A 62 r = nI z) (hz64 : z ≤ 64) (hy : A 62 t = -9) : pm_Cv e_X10_copy [.ref 44, .int (nI r), .int i, .int (nI t), .int j, .int (nI m)] (pmM h mi ml A B) (.int (-3)) (m_meet h mi ml A B 1) := by
  refine pm_enter rfl (Nat.le_of_ble_eq_true rfl) ?_
  show pm_V e_X10_copy 0 [some (.ref 44), some (.int (nI r)), some (.int i), some (.int (nI t)), some (.int j), some (.int (nI m)), none] [] (pmM h mi ml A B) (0, 0) _
  refine r_iload_1 d_X10_copy_0 ?_
  refine r_S1 d_X10_copy_1 (c_X10_isRowN (by omega)) ⟨rfl, rfl⟩ (Nat.le_of_ble_eq_true rfl) ?_
  refine r_if_eq d_X10_copy_4 (fun c4 => absurd c4 (by decide)) (fun c4 => ?_)
  clear c4
  refine r_iload_3 d_X10_copy_7 ?_
  refine r_S1 d_X10_copy_8 (c_X10_isRowN (by omega)) ⟨rfl, rfl⟩ (Nat.le_of_ble_eq_true rfl) ?_
  refine r_if_ne d_X10_copy_11 (fun c11 => ?_) (fun c11 => absurd c11 (by decide))
  clear c11
  refine r_iload_5 d_X10_copy_16 ?_
  refine r_if_ge d_X10_copy_18 (fun c18 => ?_) (fun c18 => ?_)
  · -- taken at 18
    have c18 : 0 ≤ m := (nI_leI (a := 0) (b := m) (by omega) (by omega)).mp c18
    refine r_aload_0 d_X10_copy_27 ?_
    refine r_get d_X10_copy_28 s10_sizes rfl rfl ?_
    refine r_iload_1 d_X10_copy_31 ?_
    refine r_iald d_X10_copy_32 rfl (pm_ixN (by omega) (by omega)) ?_
    rw [hz]
    refine r_if_lt d_X10_copy_33 (fun c33 => ?_) (fun c33 => ?_)
    · -- taken at 33
      have c33 : z < 0 := (nI_ltI (a := z) (b := 0) (by omega) (by omega)).mp c33
      exfalso; omega
    · -- not taken at 33
      have c33 : ¬ z < 0 := fun zz9 => c33 ((nI_ltI (a := z) (b := 0) (by omega) (by omega)).mpr zz9)
      refine r_aload_0 d_X10_copy_36 ?_
      refine r_get d_X10_copy_37 s10_sizes rfl rfl ?_
      refine r_iload_3 d_X10_copy_40 ?_
      refine r_iald d_X10_copy_41 rfl (pm_ixN (by omega) (by omega)) ?_
      rw [hy]
      refine r_if_ge d_X10_copy_42 (fun c42 => ?_) (fun c42 => ?_)
      · -- taken at 42
        exact absurd c42 (by decide)
      · -- not taken at 42
        refine r_aload_0 d_X10_copy_45 ?_
        refine r_push (v := nI 1) d_X10_copy_46 ?_
        refine r_V1 d_X10_copy_47 (c_X10_meets (w := 1) (by decide)) rfl rfl rfl ⟨rfl, rfl⟩ (Nat.le_of_ble_eq_true rfl) ?_
        refine r_ireturn d_X10_copy_50 ⟨_, rfl, rfl⟩ ?_
        exact ⟨rfl, rfl⟩
  · -- not taken at 18
    have c18 : ¬ 0 ≤ m := fun zz9 => c18 ((nI_leI (a := 0) (b := m) (by omega) (by omega)).mpr zz9)
    exfalso; omega
set_option maxRecDepth 10000 in
set_option maxHeartbeats 4000000 in
theorem c_X10_copy_far1 {h : pm_H} {mi : Nat → Int32} {ml : Nat → Int64} {A : Nat → Nat → Int32} {B : Nat → Nat → Int64} {r t m : Nat} {i j : Int32} (hr : r < 4) (ht : t < 4) (hm : m < 2 ^ 31) {z y : Nat} (hz : A 62 r = nI z) (hz64 : z ≤ 64) (hy : A 62 t = nI y) (hy64 : y ≤ 64) (hi : i < 0) : pm_Cv e_X10_copy [.ref 44, .int (nI r), .int i, .int (nI t), .int j, .int (nI m)] (pmM h mi ml A B) (.int (-3)) (m_meet h mi ml A B 2) := by
  refine pm_enter rfl (Nat.le_of_ble_eq_true rfl) ?_
  show pm_V e_X10_copy 0 [some (.ref 44), some (.int (nI r)), some (.int i), some (.int (nI t)), some (.int j), some (.int (nI m)), none] [] (pmM h mi ml A B) (0, 0) _
  refine r_iload_1 d_X10_copy_0 ?_
  refine r_S1 d_X10_copy_1 (c_X10_isRowN (by omega)) ⟨rfl, rfl⟩ (Nat.le_of_ble_eq_true rfl) ?_
  refine r_if_eq d_X10_copy_4 (fun c4 => absurd c4 (by decide)) (fun c4 => ?_)
  clear c4
  refine r_iload_3 d_X10_copy_7 ?_
  refine r_S1 d_X10_copy_8 (c_X10_isRowN (by omega)) ⟨rfl, rfl⟩ (Nat.le_of_ble_eq_true rfl) ?_
  refine r_if_ne d_X10_copy_11 (fun c11 => ?_) (fun c11 => absurd c11 (by decide))
  clear c11
  refine r_iload_5 d_X10_copy_16 ?_
  refine r_if_ge d_X10_copy_18 (fun c18 => ?_) (fun c18 => ?_)
  · -- taken at 18
    have c18 : 0 ≤ m := (nI_leI (a := 0) (b := m) (by omega) (by omega)).mp c18
    refine r_aload_0 d_X10_copy_27 ?_
    refine r_get d_X10_copy_28 s10_sizes rfl rfl ?_
    refine r_iload_1 d_X10_copy_31 ?_
    refine r_iald d_X10_copy_32 rfl (pm_ixN (by omega) (by omega)) ?_
    rw [hz]
    refine r_if_lt d_X10_copy_33 (fun c33 => ?_) (fun c33 => ?_)
    · -- taken at 33
      have c33 : z < 0 := (nI_ltI (a := z) (b := 0) (by omega) (by omega)).mp c33
      exfalso; omega
    · -- not taken at 33
      have c33 : ¬ z < 0 := fun zz9 => c33 ((nI_ltI (a := z) (b := 0) (by omega) (by omega)).mpr zz9)
      refine r_aload_0 d_X10_copy_36 ?_
      refine r_get d_X10_copy_37 s10_sizes rfl rfl ?_
      refine r_iload_3 d_X10_copy_40 ?_
      refine r_iald d_X10_copy_41 rfl (pm_ixN (by omega) (by omega)) ?_
      rw [hy]
      refine r_if_ge d_X10_copy_42 (fun c42 => ?_) (fun c42 => ?_)
      · -- taken at 42
        have c42 : 0 ≤ y := (nI_leI (a := 0) (b := y) (by omega) (by omega)).mp c42
        refine r_iload_2 d_X10_copy_51 ?_
        refine r_if_lt d_X10_copy_52 (fun c52 => ?_) (fun c52 => ?_)
        · -- taken at 52
          refine r_aload_0 d_X10_copy_95 ?_
          refine r_push (v := nI 2) d_X10_copy_96 ?_
          refine r_V1 d_X10_copy_97 (c_X10_meets (w := 2) (by decide)) rfl rfl rfl ⟨rfl, rfl⟩ (Nat.le_of_ble_eq_true rfl) ?_
          refine r_ireturn d_X10_copy_100 ⟨_, rfl, rfl⟩ ?_
          exact ⟨rfl, rfl⟩
        · -- not taken at 52
          exact absurd hi c52
      · -- not taken at 42
        have c42 : ¬ 0 ≤ y := fun zz9 => c42 ((nI_leI (a := 0) (b := y) (by omega) (by omega)).mpr zz9)
        exfalso; omega
  · -- not taken at 18
    have c18 : ¬ 0 ≤ m := fun zz9 => c18 ((nI_leI (a := 0) (b := m) (by omega) (by omega)).mpr zz9)
    exfalso; omega
set_option maxRecDepth 10000 in
set_option maxHeartbeats 4000000 in
theorem c_X10_copy_far2 {h : pm_H} {mi : Nat → Int32} {ml : Nat → Int64} {A : Nat → Nat → Int32} {B : Nat → Nat → Int64} {r t m a : Nat} {j : Int32} (hr : r < 4) (ht : t < 4) (hm : m < 2 ^ 31) (ha : a < 2 ^ 31) {z y : Nat} (hz : A 62 r = nI z) (hz64 : z ≤ 64) (hy : A 62 t = nI y) (hy64 : y ≤ 64) (hj : j < 0) : pm_Cv e_X10_copy [.ref 44, .int (nI r), .int (nI a), .int (nI t), .int j, .int (nI m)] (pmM h mi ml A B) (.int (-3)) (m_meet h mi ml A B 2) := by
  refine pm_enter rfl (Nat.le_of_ble_eq_true rfl) ?_
  show pm_V e_X10_copy 0 [some (.ref 44), some (.int (nI r)), some (.int (nI a)), some (.int (nI t)), some (.int j), some (.int (nI m)), none] [] (pmM h mi ml A B) (0, 0) _
  refine r_iload_1 d_X10_copy_0 ?_
  refine r_S1 d_X10_copy_1 (c_X10_isRowN (by omega)) ⟨rfl, rfl⟩ (Nat.le_of_ble_eq_true rfl) ?_
  refine r_if_eq d_X10_copy_4 (fun c4 => absurd c4 (by decide)) (fun c4 => ?_)
  clear c4
  refine r_iload_3 d_X10_copy_7 ?_
  refine r_S1 d_X10_copy_8 (c_X10_isRowN (by omega)) ⟨rfl, rfl⟩ (Nat.le_of_ble_eq_true rfl) ?_
  refine r_if_ne d_X10_copy_11 (fun c11 => ?_) (fun c11 => absurd c11 (by decide))
  clear c11
  refine r_iload_5 d_X10_copy_16 ?_
  refine r_if_ge d_X10_copy_18 (fun c18 => ?_) (fun c18 => ?_)
  · -- taken at 18
    have c18 : 0 ≤ m := (nI_leI (a := 0) (b := m) (by omega) (by omega)).mp c18
    refine r_aload_0 d_X10_copy_27 ?_
    refine r_get d_X10_copy_28 s10_sizes rfl rfl ?_
    refine r_iload_1 d_X10_copy_31 ?_
    refine r_iald d_X10_copy_32 rfl (pm_ixN (by omega) (by omega)) ?_
    rw [hz]
    refine r_if_lt d_X10_copy_33 (fun c33 => ?_) (fun c33 => ?_)
    · -- taken at 33
      have c33 : z < 0 := (nI_ltI (a := z) (b := 0) (by omega) (by omega)).mp c33
      exfalso; omega
    · -- not taken at 33
      have c33 : ¬ z < 0 := fun zz9 => c33 ((nI_ltI (a := z) (b := 0) (by omega) (by omega)).mpr zz9)
      refine r_aload_0 d_X10_copy_36 ?_
      refine r_get d_X10_copy_37 s10_sizes rfl rfl ?_
      refine r_iload_3 d_X10_copy_40 ?_
      refine r_iald d_X10_copy_41 rfl (pm_ixN (by omega) (by omega)) ?_
      rw [hy]
      refine r_if_ge d_X10_copy_42 (fun c42 => ?_) (fun c42 => ?_)
      · -- taken at 42
        have c42 : 0 ≤ y := (nI_leI (a := 0) (b := y) (by omega) (by omega)).mp c42
        refine r_iload_2 d_X10_copy_51 ?_
        refine r_if_lt d_X10_copy_52 (fun c52 => ?_) (fun c52 => ?_)
        · -- taken at 52
          have c52 : a < 0 := (nI_ltI (a := a) (b := 0) (by omega) (by omega)).mp c52
          exfalso; omega
        · -- not taken at 52
          have c52 : ¬ a < 0 := fun zz9 => c52 ((nI_ltI (a := a) (b := 0) (by omega) (by omega)).mpr zz9)
          refine r_iload_4 d_X10_copy_55 ?_
          refine r_if_lt d_X10_copy_57 (fun c57 => ?_) (fun c57 => ?_)
          · -- taken at 57
            refine r_aload_0 d_X10_copy_95 ?_
            refine r_push (v := nI 2) d_X10_copy_96 ?_
            refine r_V1 d_X10_copy_97 (c_X10_meets (w := 2) (by decide)) rfl rfl rfl ⟨rfl, rfl⟩ (Nat.le_of_ble_eq_true rfl) ?_
            refine r_ireturn d_X10_copy_100 ⟨_, rfl, rfl⟩ ?_
            exact ⟨rfl, rfl⟩
          · -- not taken at 57
            exact absurd hj c57
      · -- not taken at 42
        have c42 : ¬ 0 ≤ y := fun zz9 => c42 ((nI_leI (a := 0) (b := y) (by omega) (by omega)).mpr zz9)
        exfalso; omega
  · -- not taken at 18
    have c18 : ¬ 0 ≤ m := fun zz9 => c18 ((nI_leI (a := 0) (b := m) (by omega) (by omega)).mpr zz9)
    exfalso; omega
set_option maxRecDepth 10000 in
set_option maxHeartbeats 4000000 in
theorem c_X10_copy_far3 {h : pm_H} {mi : Nat → Int32} {ml : Nat → Int64} {A : Nat → Nat → Int32} {B : Nat → Nat → Int64} {r t m a c : Nat} (hr : r < 4) (ht : t < 4) (hm : m < 2 ^ 31) (ha : a < 2 ^ 31) (hc : c < 2 ^ 31) {z y : Nat} (hz : A 62 r = nI z) (hz64 : z ≤ 64) (hy : A 62 t = nI y) (hy64 : y ≤ 64) (hf : z < a + m) : pm_Cv e_X10_copy [.ref 44, .int (nI r), .int (nI a), .int (nI t), .int (nI c), .int (nI m)] (pmM h mi ml A B) (.int (-3)) (m_meet h mi ml A B 2) := by
  refine pm_enter rfl (Nat.le_of_ble_eq_true rfl) ?_
  show pm_V e_X10_copy 0 [some (.ref 44), some (.int (nI r)), some (.int (nI a)), some (.int (nI t)), some (.int (nI c)), some (.int (nI m)), none] [] (pmM h mi ml A B) (0, 0) _
  refine r_iload_1 d_X10_copy_0 ?_
  refine r_S1 d_X10_copy_1 (c_X10_isRowN (by omega)) ⟨rfl, rfl⟩ (Nat.le_of_ble_eq_true rfl) ?_
  refine r_if_eq d_X10_copy_4 (fun c4 => absurd c4 (by decide)) (fun c4 => ?_)
  clear c4
  refine r_iload_3 d_X10_copy_7 ?_
  refine r_S1 d_X10_copy_8 (c_X10_isRowN (by omega)) ⟨rfl, rfl⟩ (Nat.le_of_ble_eq_true rfl) ?_
  refine r_if_ne d_X10_copy_11 (fun c11 => ?_) (fun c11 => absurd c11 (by decide))
  clear c11
  refine r_iload_5 d_X10_copy_16 ?_
  refine r_if_ge d_X10_copy_18 (fun c18 => ?_) (fun c18 => ?_)
  · -- taken at 18
    have c18 : 0 ≤ m := (nI_leI (a := 0) (b := m) (by omega) (by omega)).mp c18
    refine r_aload_0 d_X10_copy_27 ?_
    refine r_get d_X10_copy_28 s10_sizes rfl rfl ?_
    refine r_iload_1 d_X10_copy_31 ?_
    refine r_iald d_X10_copy_32 rfl (pm_ixN (by omega) (by omega)) ?_
    rw [hz]
    refine r_if_lt d_X10_copy_33 (fun c33 => ?_) (fun c33 => ?_)
    · -- taken at 33
      have c33 : z < 0 := (nI_ltI (a := z) (b := 0) (by omega) (by omega)).mp c33
      exfalso; omega
    · -- not taken at 33
      have c33 : ¬ z < 0 := fun zz9 => c33 ((nI_ltI (a := z) (b := 0) (by omega) (by omega)).mpr zz9)
      refine r_aload_0 d_X10_copy_36 ?_
      refine r_get d_X10_copy_37 s10_sizes rfl rfl ?_
      refine r_iload_3 d_X10_copy_40 ?_
      refine r_iald d_X10_copy_41 rfl (pm_ixN (by omega) (by omega)) ?_
      rw [hy]
      refine r_if_ge d_X10_copy_42 (fun c42 => ?_) (fun c42 => ?_)
      · -- taken at 42
        have c42 : 0 ≤ y := (nI_leI (a := 0) (b := y) (by omega) (by omega)).mp c42
        refine r_iload_2 d_X10_copy_51 ?_
        refine r_if_lt d_X10_copy_52 (fun c52 => ?_) (fun c52 => ?_)
        · -- taken at 52
          have c52 : a < 0 := (nI_ltI (a := a) (b := 0) (by omega) (by omega)).mp c52
          exfalso; omega
        · -- not taken at 52
          have c52 : ¬ a < 0 := fun zz9 => c52 ((nI_ltI (a := a) (b := 0) (by omega) (by omega)).mpr zz9)
          refine r_iload_4 d_X10_copy_55 ?_
          refine r_if_lt d_X10_copy_57 (fun c57 => ?_) (fun c57 => ?_)
          · -- taken at 57
            have c57 : c < 0 := (nI_ltI (a := c) (b := 0) (by omega) (by omega)).mp c57
            exfalso; omega
          · -- not taken at 57
            have c57 : ¬ c < 0 := fun zz9 => c57 ((nI_ltI (a := c) (b := 0) (by omega) (by omega)).mpr zz9)
            refine r_iload_2 d_X10_copy_60 ?_
            refine r_i2l d_X10_copy_61 ?_
            rw [nI_l (n := a) (by omega)]
            refine r_iload_5 d_X10_copy_62 ?_
            refine r_i2l d_X10_copy_64 ?_
            rw [nI_l (n := m) (by omega)]
            refine r_ladd d_X10_copy_65 ?_
            rw [lN_add]
            refine r_aload_0 d_X10_copy_66 ?_
            refine r_get d_X10_copy_67 s10_sizes rfl rfl ?_
            refine r_iload_1 d_X10_copy_70 ?_
            refine r_iald d_X10_copy_71 rfl (pm_ixN (by omega) (by omega)) ?_
            rw [hz]
            refine r_i2l d_X10_copy_72 ?_
            rw [nI_l (n := z) (by omega)]
            refine r_lcmp d_X10_copy_73 ?_
            refine r_if_gt d_X10_copy_74 (fun c74 => ?_) (fun c74 => ?_)
            · -- taken at 74
              have c74 : z < (a + m) := ((lg_cmp_gt (lN ((a + m))) (lN (z))).trans (pk_lLT (a := z) (b := (a + m)) (by omega) (by omega))).mp c74
              refine r_aload_0 d_X10_copy_95 ?_
              refine r_push (v := nI 2) d_X10_copy_96 ?_
              refine r_V1 d_X10_copy_97 (c_X10_meets (w := 2) (by decide)) rfl rfl rfl ⟨rfl, rfl⟩ (Nat.le_of_ble_eq_true rfl) ?_
              refine r_ireturn d_X10_copy_100 ⟨_, rfl, rfl⟩ ?_
              exact ⟨rfl, rfl⟩
            · -- not taken at 74
              have c74 : ¬ z < (a + m) := fun zz9 => c74 (((lg_cmp_gt (lN ((a + m))) (lN (z))).trans (pk_lLT (a := z) (b := (a + m)) (by omega) (by omega))).mpr zz9)
              exfalso; omega
      · -- not taken at 42
        have c42 : ¬ 0 ≤ y := fun zz9 => c42 ((nI_leI (a := 0) (b := y) (by omega) (by omega)).mpr zz9)
        exfalso; omega
  · -- not taken at 18
    have c18 : ¬ 0 ≤ m := fun zz9 => c18 ((nI_leI (a := 0) (b := m) (by omega) (by omega)).mpr zz9)
    exfalso; omega
set_option maxRecDepth 10000 in
set_option maxHeartbeats 4000000 in
theorem c_X10_copy_far4 {h : pm_H} {mi : Nat → Int32} {ml : Nat → Int64} {A : Nat → Nat → Int32} {B : Nat → Nat → Int64} {r t m a c : Nat} (hr : r < 4) (ht : t < 4) (hm : m < 2 ^ 31) (ha : a < 2 ^ 31) (hc : c < 2 ^ 31) {z y : Nat} (hz : A 62 r = nI z) (hz64 : z ≤ 64) (hy : A 62 t = nI y) (hy64 : y ≤ 64) (hf : a + m ≤ z) (hf2 : y < c + m) : pm_Cv e_X10_copy [.ref 44, .int (nI r), .int (nI a), .int (nI t), .int (nI c), .int (nI m)] (pmM h mi ml A B) (.int (-3)) (m_meet h mi ml A B 2) := by
  refine pm_enter rfl (Nat.le_of_ble_eq_true rfl) ?_
  show pm_V e_X10_copy 0 [some (.ref 44), some (.int (nI r)), some (.int (nI a)), some (.int (nI t)), some (.int (nI c)), some (.int (nI m)), none] [] (pmM h mi ml A B) (0, 0) _
  refine r_iload_1 d_X10_copy_0 ?_
  refine r_S1 d_X10_copy_1 (c_X10_isRowN (by omega)) ⟨rfl, rfl⟩ (Nat.le_of_ble_eq_true rfl) ?_
  refine r_if_eq d_X10_copy_4 (fun c4 => absurd c4 (by decide)) (fun c4 => ?_)
  clear c4
  refine r_iload_3 d_X10_copy_7 ?_
  refine r_S1 d_X10_copy_8 (c_X10_isRowN (by omega)) ⟨rfl, rfl⟩ (Nat.le_of_ble_eq_true rfl) ?_
  refine r_if_ne d_X10_copy_11 (fun c11 => ?_) (fun c11 => absurd c11 (by decide))
  clear c11
  refine r_iload_5 d_X10_copy_16 ?_
  refine r_if_ge d_X10_copy_18 (fun c18 => ?_) (fun c18 => ?_)
  · -- taken at 18
    have c18 : 0 ≤ m := (nI_leI (a := 0) (b := m) (by omega) (by omega)).mp c18
    refine r_aload_0 d_X10_copy_27 ?_
    refine r_get d_X10_copy_28 s10_sizes rfl rfl ?_
    refine r_iload_1 d_X10_copy_31 ?_
    refine r_iald d_X10_copy_32 rfl (pm_ixN (by omega) (by omega)) ?_
    rw [hz]
    refine r_if_lt d_X10_copy_33 (fun c33 => ?_) (fun c33 => ?_)
    · -- taken at 33
      have c33 : z < 0 := (nI_ltI (a := z) (b := 0) (by omega) (by omega)).mp c33
      exfalso; omega
    · -- not taken at 33
      have c33 : ¬ z < 0 := fun zz9 => c33 ((nI_ltI (a := z) (b := 0) (by omega) (by omega)).mpr zz9)
      refine r_aload_0 d_X10_copy_36 ?_
      refine r_get d_X10_copy_37 s10_sizes rfl rfl ?_
      refine r_iload_3 d_X10_copy_40 ?_
      refine r_iald d_X10_copy_41 rfl (pm_ixN (by omega) (by omega)) ?_
      rw [hy]
      refine r_if_ge d_X10_copy_42 (fun c42 => ?_) (fun c42 => ?_)
      · -- taken at 42
        have c42 : 0 ≤ y := (nI_leI (a := 0) (b := y) (by omega) (by omega)).mp c42
        refine r_iload_2 d_X10_copy_51 ?_
        refine r_if_lt d_X10_copy_52 (fun c52 => ?_) (fun c52 => ?_)
        · -- taken at 52
          have c52 : a < 0 := (nI_ltI (a := a) (b := 0) (by omega) (by omega)).mp c52
          exfalso; omega
        · -- not taken at 52
          have c52 : ¬ a < 0 := fun zz9 => c52 ((nI_ltI (a := a) (b := 0) (by omega) (by omega)).mpr zz9)
          refine r_iload_4 d_X10_copy_55 ?_
          refine r_if_lt d_X10_copy_57 (fun c57 => ?_) (fun c57 => ?_)
          · -- taken at 57
            have c57 : c < 0 := (nI_ltI (a := c) (b := 0) (by omega) (by omega)).mp c57
            exfalso; omega
          · -- not taken at 57
            have c57 : ¬ c < 0 := fun zz9 => c57 ((nI_ltI (a := c) (b := 0) (by omega) (by omega)).mpr zz9)
            refine r_iload_2 d_X10_copy_60 ?_
            refine r_i2l d_X10_copy_61 ?_
            rw [nI_l (n := a) (by omega)]
            refine r_iload_5 d_X10_copy_62 ?_
            refine r_i2l d_X10_copy_64 ?_
            rw [nI_l (n := m) (by omega)]
            refine r_ladd d_X10_copy_65 ?_
            rw [lN_add]
            refine r_aload_0 d_X10_copy_66 ?_
            refine r_get d_X10_copy_67 s10_sizes rfl rfl ?_
            refine r_iload_1 d_X10_copy_70 ?_
            refine r_iald d_X10_copy_71 rfl (pm_ixN (by omega) (by omega)) ?_
            rw [hz]
            refine r_i2l d_X10_copy_72 ?_
            rw [nI_l (n := z) (by omega)]
            refine r_lcmp d_X10_copy_73 ?_
            refine r_if_gt d_X10_copy_74 (fun c74 => ?_) (fun c74 => ?_)
            · -- taken at 74
              have c74 : z < (a + m) := ((lg_cmp_gt (lN ((a + m))) (lN (z))).trans (pk_lLT (a := z) (b := (a + m)) (by omega) (by omega))).mp c74
              exfalso; omega
            · -- not taken at 74
              have c74 : ¬ z < (a + m) := fun zz9 => c74 (((lg_cmp_gt (lN ((a + m))) (lN (z))).trans (pk_lLT (a := z) (b := (a + m)) (by omega) (by omega))).mpr zz9)
              refine r_iload_4 d_X10_copy_77 ?_
              refine r_i2l d_X10_copy_79 ?_
              rw [nI_l (n := c) (by omega)]
              refine r_iload_5 d_X10_copy_80 ?_
              refine r_i2l d_X10_copy_82 ?_
              rw [nI_l (n := m) (by omega)]
              refine r_ladd d_X10_copy_83 ?_
              rw [lN_add]
              refine r_aload_0 d_X10_copy_84 ?_
              refine r_get d_X10_copy_85 s10_sizes rfl rfl ?_
              refine r_iload_3 d_X10_copy_88 ?_
              refine r_iald d_X10_copy_89 rfl (pm_ixN (by omega) (by omega)) ?_
              rw [hy]
              refine r_i2l d_X10_copy_90 ?_
              rw [nI_l (n := y) (by omega)]
              refine r_lcmp d_X10_copy_91 ?_
              refine r_if_le d_X10_copy_92 (fun c92 => ?_) (fun c92 => ?_)
              · -- taken at 92
                have c92 : (c + m) ≤ y := ((lg_cmp_le (lN ((c + m))) (lN (y))).trans (pk_lLE (a := (c + m)) (b := y) (by omega) (by omega))).mp c92
                exfalso; omega
              · -- not taken at 92
                have c92 : ¬ (c + m) ≤ y := fun zz9 => c92 (((lg_cmp_le (lN ((c + m))) (lN (y))).trans (pk_lLE (a := (c + m)) (b := y) (by omega) (by omega))).mpr zz9)
                refine r_aload_0 d_X10_copy_95 ?_
                refine r_push (v := nI 2) d_X10_copy_96 ?_
                refine r_V1 d_X10_copy_97 (c_X10_meets (w := 2) (by decide)) rfl rfl rfl ⟨rfl, rfl⟩ (Nat.le_of_ble_eq_true rfl) ?_
                refine r_ireturn d_X10_copy_100 ⟨_, rfl, rfl⟩ ?_
                exact ⟨rfl, rfl⟩
      · -- not taken at 42
        have c42 : ¬ 0 ≤ y := fun zz9 => c42 ((nI_leI (a := 0) (b := y) (by omega) (by omega)).mpr zz9)
        exfalso; omega
  · -- not taken at 18
    have c18 : ¬ 0 ≤ m := fun zz9 => c18 ((nI_leI (a := 0) (b := m) (by omega) (by omega)).mpr zz9)
    exfalso; omega
set_option maxRecDepth 10000 in
set_option maxHeartbeats 4000000 in
theorem lp_X10_copy {h : pm_H} {mi : Nat → Int32} {ml : Nat → Int64} {A : Nat → Nat → Int32} {B : Nat → Nat → Int64} {r t m a c : Nat} (hr : r < 4) (ham : a + m ≤ 64) {F : Option Value → pm_H → Prop} {b : Nat × Nat}  (K : pm_V e_X10_copy 138 [some (.ref 44), some (.int (nI r)), some (.int (nI a)), some (.int (nI t)), some (.int (nI c)), some (.int (nI m)), some (.int (nI m))] [] (pmM h mi ml (va_up A 64 (pm_fc (fun q => A 63 (64 * r + a + q)) (A 64) m)) B) b F) : ∀ (d i : Nat), i + d = m → pm_V e_X10_copy 104 [some (.ref 44), some (.int (nI r)), some (.int (nI a)), some (.int (nI t)), some (.int (nI c)), some (.int (nI m)), some (.int (nI i))] [] (pmM h mi ml (va_up A 64 (pm_fc (fun q => A 63 (64 * r + a + q)) (A 64) i)) B) b F := by
  intro d
  induction d with
  | zero =>
    intro i hi
    rw [show i = m by omega]
    refine r_iload_6 d_X10_copy_104 ?_
    refine r_iload_5 d_X10_copy_106 ?_
    refine r_icmp_ge d_X10_copy_108 (fun c108 => ?_) (fun c108 => ?_)
    · -- taken at 108
      have c108 : m ≤ m := (nI_leI (a := m) (b := m) (by omega) (by omega)).mp c108
      exact K
    · -- not taken at 108
      have c108 : ¬ m ≤ m := fun zz9 => c108 ((nI_leI (a := m) (b := m) (by omega) (by omega)).mpr zz9)
      exfalso; omega
  | succ d ih =>
    intro i hi
    refine r_iload_6 d_X10_copy_104 ?_
    refine r_iload_5 d_X10_copy_106 ?_
    refine r_icmp_ge d_X10_copy_108 (fun c108 => ?_) (fun c108 => ?_)
    · -- taken at 108
      have c108 : m ≤ i := (nI_leI (a := m) (b := i) (by omega) (by omega)).mp c108
      exfalso; omega
    · -- not taken at 108
      have c108 : ¬ m ≤ i := fun zz9 => c108 ((nI_leI (a := m) (b := i) (by omega) (by omega)).mpr zz9)
      refine r_aload_0 d_X10_copy_111 ?_
      refine r_get d_X10_copy_112 s10_moving rfl rfl ?_
      refine r_iload_6 d_X10_copy_115 ?_
      refine r_aload_0 d_X10_copy_117 ?_
      refine r_get d_X10_copy_118 s10_rows rfl rfl ?_
      refine r_push (v := nI 64) d_X10_copy_121 ?_
      refine r_iload_1 d_X10_copy_123 ?_
      refine r_imul d_X10_copy_124 ?_
      rw [pk_mul]
      refine r_iload_2 d_X10_copy_125 ?_
      refine r_iadd d_X10_copy_126 ?_
      rw [nI_add]
      refine r_iload_6 d_X10_copy_127 ?_
      refine r_iadd d_X10_copy_129 ?_
      rw [nI_add]
      refine r_iald d_X10_copy_130 rfl (pm_ixN (by omega) (by omega)) ?_
      refine r_iast d_X10_copy_131 rfl (pm_ixN (by omega) (by omega)) ?_
      rw [pmM_moving, m_aua, show upd (va_up A 64 (pm_fc (fun q => A 63 (64 * r + a + q)) (A 64) i) 64) i (va_up A 64 (pm_fc (fun q => A 63 (64 * r + a + q)) (A 64) i) 63 (64 * r + a + i)) = pm_fc (fun q => A 63 (64 * r + a + q)) (A 64) (i + 1) from pm_fc_s (fun q => A 63 (64 * r + a + q)) (A 64) i]
      refine r_iinc_6 d_X10_copy_132 (Nat.le_of_ble_eq_true rfl) (fun w hw => by cases hw <;> rfl) ?_
      rw [nI_1]
      refine r_goto d_X10_copy_135 ?_
      exact ih (i + 1) (by omega)
set_option maxRecDepth 10000 in
set_option maxHeartbeats 4000000 in
theorem lq_X10_copy {h : pm_H} {mi : Nat → Int32} {ml : Nat → Int64} {A : Nat → Nat → Int32} {B : Nat → Nat → Int64} {r t m a c : Nat} (ht : t < 4) (hcm : c + m ≤ 64) {F : Option Value → pm_H → Prop} {b : Nat × Nat}  (K : pm_V e_X10_copy 176 [some (.ref 44), some (.int (nI r)), some (.int (nI a)), some (.int (nI t)), some (.int (nI c)), some (.int (nI m)), some (.int (nI m))] [] (pmM h mi ml (va_up A 63 (m_bk (A 63) (64 * t + c) (A 64) m)) B) b F) : ∀ (d i : Nat), i + d = m → pm_V e_X10_copy 141 [some (.ref 44), some (.int (nI r)), some (.int (nI a)), some (.int (nI t)), some (.int (nI c)), some (.int (nI m)), some (.int (nI i))] [] (pmM h mi ml (va_up A 63 (m_bk (A 63) (64 * t + c) (A 64) i)) B) b F := by
  intro d
  induction d with
  | zero =>
    intro i hi
    rw [show i = m by omega]
    refine r_iload_6 d_X10_copy_141 ?_
    refine r_iload_5 d_X10_copy_143 ?_
    refine r_icmp_ge d_X10_copy_145 (fun c145 => ?_) (fun c145 => ?_)
    · -- taken at 145
      have c145 : m ≤ m := (nI_leI (a := m) (b := m) (by omega) (by omega)).mp c145
      exact K
    · -- not taken at 145
      have c145 : ¬ m ≤ m := fun zz9 => c145 ((nI_leI (a := m) (b := m) (by omega) (by omega)).mpr zz9)
      exfalso; omega
  | succ d ih =>
    intro i hi
    refine r_iload_6 d_X10_copy_141 ?_
    refine r_iload_5 d_X10_copy_143 ?_
    refine r_icmp_ge d_X10_copy_145 (fun c145 => ?_) (fun c145 => ?_)
    · -- taken at 145
      have c145 : m ≤ i := (nI_leI (a := m) (b := i) (by omega) (by omega)).mp c145
      exfalso; omega
    · -- not taken at 145
      have c145 : ¬ m ≤ i := fun zz9 => c145 ((nI_leI (a := m) (b := i) (by omega) (by omega)).mpr zz9)
      refine r_aload_0 d_X10_copy_148 ?_
      refine r_get d_X10_copy_149 s10_rows rfl rfl ?_
      refine r_push (v := nI 64) d_X10_copy_152 ?_
      refine r_iload_3 d_X10_copy_154 ?_
      refine r_imul d_X10_copy_155 ?_
      rw [pk_mul]
      refine r_iload_4 d_X10_copy_156 ?_
      refine r_iadd d_X10_copy_158 ?_
      rw [nI_add]
      refine r_iload_6 d_X10_copy_159 ?_
      refine r_iadd d_X10_copy_161 ?_
      rw [nI_add]
      refine r_aload_0 d_X10_copy_162 ?_
      refine r_get d_X10_copy_163 s10_moving rfl rfl ?_
      refine r_iload_6 d_X10_copy_166 ?_
      refine r_iald d_X10_copy_168 rfl (pm_ixN (by omega) (by omega)) ?_
      refine r_iast d_X10_copy_169 rfl (pm_ixN (by omega) (by omega)) ?_
      rw [pmM_rows, m_aua, show upd (va_up A 63 (m_bk (A 63) (64 * t + c) (A 64) i) 63) (64 * t + c + i) (va_up A 63 (m_bk (A 63) (64 * t + c) (A 64) i) 64 i) = m_bk (A 63) (64 * t + c) (A 64) (i + 1) from m_bk_s (A 63) (64 * t + c) (A 64) i]
      refine r_iinc_6 d_X10_copy_170 (Nat.le_of_ble_eq_true rfl) (fun w hw => by cases hw <;> rfl) ?_
      rw [nI_1]
      refine r_goto d_X10_copy_173 ?_
      exact ih (i + 1) (by omega)
set_option maxRecDepth 10000 in
set_option maxHeartbeats 4000000 in
theorem c_X10_copy {h : pm_H} {mi : Nat → Int32} {ml : Nat → Int64} {A : Nat → Nat → Int32} {B : Nat → Nat → Int64} {r t m a c : Nat} (hr : r < 4) (ht : t < 4) (hm : m < 2 ^ 31) (ha : a < 2 ^ 31) (hc : c < 2 ^ 31) {z y : Nat} (hz : A 62 r = nI z) (hz64 : z ≤ 64) (hy : A 62 t = nI y) (hy64 : y ≤ 64) (hf : a + m ≤ z) (hf2 : c + m ≤ y) : pm_Cv e_X10_copy [.ref 44, .int (nI r), .int (nI a), .int (nI t), .int (nI c), .int (nI m)] (pmM h mi ml A B) (.int 1) (pmM h mi ml (va_up (va_up A 64 (pm_fc (fun q => A 63 (64 * r + a + q)) (A 64) m)) 63 (m_bk (A 63) (64 * t + c) (fun q => A 63 (64 * r + a + q)) m)) B) := by
  refine pm_enter rfl (Nat.le_of_ble_eq_true rfl) ?_
  show pm_V e_X10_copy 0 [some (.ref 44), some (.int (nI r)), some (.int (nI a)), some (.int (nI t)), some (.int (nI c)), some (.int (nI m)), none] [] (pmM h mi ml A B) (0, 0) _
  refine r_iload_1 d_X10_copy_0 ?_
  refine r_S1 d_X10_copy_1 (c_X10_isRowN (by omega)) ⟨rfl, rfl⟩ (Nat.le_of_ble_eq_true rfl) ?_
  refine r_if_eq d_X10_copy_4 (fun c4 => absurd c4 (by decide)) (fun c4 => ?_)
  clear c4
  refine r_iload_3 d_X10_copy_7 ?_
  refine r_S1 d_X10_copy_8 (c_X10_isRowN (by omega)) ⟨rfl, rfl⟩ (Nat.le_of_ble_eq_true rfl) ?_
  refine r_if_ne d_X10_copy_11 (fun c11 => ?_) (fun c11 => absurd c11 (by decide))
  clear c11
  refine r_iload_5 d_X10_copy_16 ?_
  refine r_if_ge d_X10_copy_18 (fun c18 => ?_) (fun c18 => ?_)
  · -- taken at 18
    have c18 : 0 ≤ m := (nI_leI (a := 0) (b := m) (by omega) (by omega)).mp c18
    refine r_aload_0 d_X10_copy_27 ?_
    refine r_get d_X10_copy_28 s10_sizes rfl rfl ?_
    refine r_iload_1 d_X10_copy_31 ?_
    refine r_iald d_X10_copy_32 rfl (pm_ixN (by omega) (by omega)) ?_
    rw [hz]
    refine r_if_lt d_X10_copy_33 (fun c33 => ?_) (fun c33 => ?_)
    · -- taken at 33
      have c33 : z < 0 := (nI_ltI (a := z) (b := 0) (by omega) (by omega)).mp c33
      exfalso; omega
    · -- not taken at 33
      have c33 : ¬ z < 0 := fun zz9 => c33 ((nI_ltI (a := z) (b := 0) (by omega) (by omega)).mpr zz9)
      refine r_aload_0 d_X10_copy_36 ?_
      refine r_get d_X10_copy_37 s10_sizes rfl rfl ?_
      refine r_iload_3 d_X10_copy_40 ?_
      refine r_iald d_X10_copy_41 rfl (pm_ixN (by omega) (by omega)) ?_
      rw [hy]
      refine r_if_ge d_X10_copy_42 (fun c42 => ?_) (fun c42 => ?_)
      · -- taken at 42
        have c42 : 0 ≤ y := (nI_leI (a := 0) (b := y) (by omega) (by omega)).mp c42
        refine r_iload_2 d_X10_copy_51 ?_
        refine r_if_lt d_X10_copy_52 (fun c52 => ?_) (fun c52 => ?_)
        · -- taken at 52
          have c52 : a < 0 := (nI_ltI (a := a) (b := 0) (by omega) (by omega)).mp c52
          exfalso; omega
        · -- not taken at 52
          have c52 : ¬ a < 0 := fun zz9 => c52 ((nI_ltI (a := a) (b := 0) (by omega) (by omega)).mpr zz9)
          refine r_iload_4 d_X10_copy_55 ?_
          refine r_if_lt d_X10_copy_57 (fun c57 => ?_) (fun c57 => ?_)
          · -- taken at 57
            have c57 : c < 0 := (nI_ltI (a := c) (b := 0) (by omega) (by omega)).mp c57
            exfalso; omega
          · -- not taken at 57
            have c57 : ¬ c < 0 := fun zz9 => c57 ((nI_ltI (a := c) (b := 0) (by omega) (by omega)).mpr zz9)
            refine r_iload_2 d_X10_copy_60 ?_
            refine r_i2l d_X10_copy_61 ?_
            rw [nI_l (n := a) (by omega)]
            refine r_iload_5 d_X10_copy_62 ?_
            refine r_i2l d_X10_copy_64 ?_
            rw [nI_l (n := m) (by omega)]
            refine r_ladd d_X10_copy_65 ?_
            rw [lN_add]
            refine r_aload_0 d_X10_copy_66 ?_
            refine r_get d_X10_copy_67 s10_sizes rfl rfl ?_
            refine r_iload_1 d_X10_copy_70 ?_
            refine r_iald d_X10_copy_71 rfl (pm_ixN (by omega) (by omega)) ?_
            rw [hz]
            refine r_i2l d_X10_copy_72 ?_
            rw [nI_l (n := z) (by omega)]
            refine r_lcmp d_X10_copy_73 ?_
            refine r_if_gt d_X10_copy_74 (fun c74 => ?_) (fun c74 => ?_)
            · -- taken at 74
              have c74 : z < (a + m) := ((lg_cmp_gt (lN ((a + m))) (lN (z))).trans (pk_lLT (a := z) (b := (a + m)) (by omega) (by omega))).mp c74
              exfalso; omega
            · -- not taken at 74
              have c74 : ¬ z < (a + m) := fun zz9 => c74 (((lg_cmp_gt (lN ((a + m))) (lN (z))).trans (pk_lLT (a := z) (b := (a + m)) (by omega) (by omega))).mpr zz9)
              refine r_iload_4 d_X10_copy_77 ?_
              refine r_i2l d_X10_copy_79 ?_
              rw [nI_l (n := c) (by omega)]
              refine r_iload_5 d_X10_copy_80 ?_
              refine r_i2l d_X10_copy_82 ?_
              rw [nI_l (n := m) (by omega)]
              refine r_ladd d_X10_copy_83 ?_
              rw [lN_add]
              refine r_aload_0 d_X10_copy_84 ?_
              refine r_get d_X10_copy_85 s10_sizes rfl rfl ?_
              refine r_iload_3 d_X10_copy_88 ?_
              refine r_iald d_X10_copy_89 rfl (pm_ixN (by omega) (by omega)) ?_
              rw [hy]
              refine r_i2l d_X10_copy_90 ?_
              rw [nI_l (n := y) (by omega)]
              refine r_lcmp d_X10_copy_91 ?_
              refine r_if_le d_X10_copy_92 (fun c92 => ?_) (fun c92 => ?_)
              · -- taken at 92
                have c92 : (c + m) ≤ y := ((lg_cmp_le (lN ((c + m))) (lN (y))).trans (pk_lLE (a := (c + m)) (b := y) (by omega) (by omega))).mp c92
                refine r_push (v := nI 0) d_X10_copy_101 ?_
                refine r_istore_6 d_X10_copy_102 (Nat.le_of_ble_eq_true rfl) (fun w hw => by cases hw <;> rfl) ?_
                have K := lp_X10_copy (h := h) (mi := mi) (ml := ml) (A := A) (B := B) (r := r) (t := t) (m := m) (a := a) (c := c) hr (by omega) (b := (0, 0)) (F := fun v h1 => v = some (.int 1) ∧ h1 = (pmM h mi ml (va_up (va_up A 64 (pm_fc (fun q => A 63 (64 * r + a + q)) (A 64) m)) 63 (m_bk (A 63) (64 * t + c) (fun q => A 63 (64 * r + a + q)) m)) B)) ?_ m 0 (by omega)
                · rw [pm_fc_0, m_aus] at K
                  exact K
                · refine r_push (v := nI 0) d_X10_copy_138 ?_
                  refine r_istore_6 d_X10_copy_139 (Nat.le_of_ble_eq_true rfl) (fun w hw => by cases hw <;> rfl) ?_
                  have K2 := lq_X10_copy (h := h) (mi := mi) (ml := ml) (A := va_up A 64 (pm_fc (fun q => A 63 (64 * r + a + q)) (A 64) m)) (B := B) (r := r) (t := t) (m := m) (a := a) (c := c) ht (by omega) (b := (0, 0)) (F := fun v h1 => v = some (.int 1) ∧ h1 = (pmM h mi ml (va_up (va_up A 64 (pm_fc (fun q => A 63 (64 * r + a + q)) (A 64) m)) 63 (m_bk (A 63) (64 * t + c) (fun q => A 63 (64 * r + a + q)) m)) B)) ?_ m 0 (by omega)
                  · rw [m_bk_0, m_aus] at K2
                    exact K2
                  · refine r_push (v := nI 1) d_X10_copy_176 ?_
                    refine r_ireturn d_X10_copy_177 ⟨_, rfl, rfl⟩ ?_
                    refine ⟨rfl, ?_⟩
                    rw [show (va_up A 64 (pm_fc (fun q => A 63 (64 * r + a + q)) (A 64) m)) 63 = A 63 from rfl, show (va_up A 64 (pm_fc (fun q => A 63 (64 * r + a + q)) (A 64) m)) 64 = pm_fc (fun q => A 63 (64 * r + a + q)) (A 64) m from rfl, m_bk_cong (s := pm_fc (fun q => A 63 (64 * r + a + q)) (A 64) m) (s' := (fun q => A 63 (64 * r + a + q))) (fun q hq => pm_fc_in hq)]
              · -- not taken at 92
                have c92 : ¬ (c + m) ≤ y := fun zz9 => c92 (((lg_cmp_le (lN ((c + m))) (lN (y))).trans (pk_lLE (a := (c + m)) (b := y) (by omega) (by omega))).mpr zz9)
                exfalso; omega
      · -- not taken at 42
        have c42 : ¬ 0 ≤ y := fun zz9 => c42 ((nI_leI (a := 0) (b := y) (by omega) (by omega)).mpr zz9)
        exfalso; omega
  · -- not taken at 18
    have c18 : ¬ 0 ≤ m := fun zz9 => c18 ((nI_leI (a := 0) (b := m) (by omega) (by omega)).mpr zz9)
    exfalso; omega
set_option maxRecDepth 10000 in
set_option maxHeartbeats 4000000 in
theorem lp_X10_counts {h : pm_H} {mi : Nat → Int32} {ml : Nat → Int64} {A : Nat → Nat → Int32} {B : Nat → Nat → Int64} {r : Nat} {F : Option Value → pm_H → Prop} {b : Nat × Nat}  (K : pm_V e_X10_counts 21 [some (.ref 44), some (.int (nI r)), some (.int (nI 31)), none] [] (pmM h mi ml (va_up A 65 (pm_fl (nI 0) (A 65) 31)) B) b F) : ∀ (d i : Nat), i + d = 31 → pm_V e_X10_counts 2 [some (.ref 44), some (.int (nI r)), some (.int (nI i)), none] [] (pmM h mi ml (va_up A 65 (pm_fl (nI 0) (A 65) i)) B) b F := by
  intro d
  induction d with
  | zero =>
    intro i hi
    obtain rfl : i = 31 := by omega
    refine r_iload_2 d_X10_counts_2 ?_
    refine r_push (v := nI 31) d_X10_counts_3 ?_
    refine r_icmp_ge d_X10_counts_5 (fun c5 => ?_) (fun c5 => absurd (by decide) c5)
    clear c5
    exact K
  | succ d ih =>
    intro i hi
    refine r_iload_2 d_X10_counts_2 ?_
    refine r_push (v := nI 31) d_X10_counts_3 ?_
    refine r_icmp_ge d_X10_counts_5 (fun c5 => ?_) (fun c5 => ?_)
    · -- taken at 5
      have c5 : 31 ≤ i := (nI_leI (a := 31) (b := i) (by omega) (by omega)).mp c5
      exfalso; omega
    · -- not taken at 5
      have c5 : ¬ 31 ≤ i := fun zz9 => c5 ((nI_leI (a := 31) (b := i) (by omega) (by omega)).mpr zz9)
      refine r_aload_0 d_X10_counts_8 ?_
      refine r_get d_X10_counts_9 s10_times rfl rfl ?_
      refine r_iload_2 d_X10_counts_12 ?_
      refine r_push (v := nI 0) d_X10_counts_13 ?_
      refine r_iast d_X10_counts_14 rfl (pm_ixN (by omega) (by omega)) ?_
      rw [pmM_times, m_aua, show upd (va_up A 65 (pm_fl (nI 0) (A 65) i) 65) i (nI 0) = pm_fl (nI 0) (A 65) (i + 1) from pm_fl_s (nI 0) (A 65) i]
      refine r_iinc_2 d_X10_counts_15 (Nat.le_of_ble_eq_true rfl) (fun w hw => by cases hw <;> rfl) ?_
      rw [nI_1]
      refine r_goto d_X10_counts_18 ?_
      exact ih (i + 1) (by omega)
theorem sp_in_vb (v : Nat → Int32) (i : Nat) : sp_in (v i) 0 30 = sp_vb v i := by
  unfold sp_in sp_vb
  refine decide_eq_decide.mpr ⟨fun h => ⟨h.1, Int32.lt_of_le_of_lt h.2 (by decide)⟩, fun h => ⟨h.1, ?_⟩⟩
  have h2 := h.2
  rw [Int32.lt_iff_toInt_lt, pm_t31] at h2
  rw [Int32.le_iff_toInt_le, pm_t30]
  omega
theorem m_uu (mi : Nat → Int32) (k : Nat) (x y : Int32) : upd (upd mi k x) k y = upd mi k y := by
  funext j; by_cases e : j = k <;> simp [upd, e]
set_option maxRecDepth 10000 in
set_option maxHeartbeats 4000000 in
theorem lq_X10_counts {h : pm_H} {mi : Nat → Int32} {ml : Nat → Int64} {A : Nat → Nat → Int32} {B : Nat → Nat → Int64} {r z : Nat} (hr : r < 4) (hz : A 62 r = nI z) (hz64 : z ≤ 64) {F : Option Value → pm_H → Prop} {b : Nat × Nat} (K : ∀ o3, pm_V e_X10_counts 81 [some (.ref 44), some (.int (nI r)), some (.int (nI z)), o3] [] (pmM h (upd mi 3 (nI (sp_cn (fun q => A 63 (64 * r + q)) z))) ml (va_up A 65 (pm_fc (fun j => nI (sp_cv (fun q => A 63 (64 * r + q)) j z)) (A 65) 31)) B) b F) : ∀ (d i : Nat), i + d = z → ∀ o3, pm_V e_X10_counts 28 [some (.ref 44), some (.int (nI r)), some (.int (nI i)), o3] [] (pmM h (upd mi 3 (nI (sp_cn (fun q => A 63 (64 * r + q)) i))) ml (va_up A 65 (pm_fc (fun j => nI (sp_cv (fun q => A 63 (64 * r + q)) j i)) (A 65) 31)) B) b F := by
  intro d
  induction d with
  | zero =>
    intro i hi o3
    rw [show i = z by omega]
    refine r_iload_2 d_X10_counts_28 ?_
    refine r_aload_0 d_X10_counts_29 ?_
    refine r_get d_X10_counts_30 s10_sizes rfl rfl ?_
    refine r_iload_1 d_X10_counts_33 ?_
    refine r_iald d_X10_counts_34 rfl (pm_ixN (by omega) (by omega)) ?_
    rw [show va_up A 65 (pm_fc (fun j => nI (sp_cv (fun q => A 63 (64 * r + q)) j z)) (A 65) 31) 62 r = nI z from hz]
    refine r_icmp_ge d_X10_counts_35 (fun c35 => ?_) (fun c35 => ?_)
    · -- taken at 35
      have c35 : z ≤ z := (nI_leI (a := z) (b := z) (by omega) (by omega)).mp c35
      exact K _
    · -- not taken at 35
      have c35 : ¬ z ≤ z := fun zz9 => c35 ((nI_leI (a := z) (b := z) (by omega) (by omega)).mpr zz9)
      exfalso; omega
  | succ d ih =>
    intro i hi o3
    have hcn := sp_cn_le (fun q => A 63 (64 * r + q)) i
    have e9 : sp_cn (fun q => A 63 (64 * r + q)) (i + 1) = sp_cn (fun q => A 63 (64 * r + q)) i + pm_bl (sp_vb (fun q => A 63 (64 * r + q)) i) := rfl
    have ih9 := ih (i + 1) (by omega)
    cases hx : sp_vb (fun q => A 63 (64 * r + q)) i with
    | false =>
      rw [e9, hx, ← sp_cv_no hx] at ih9
      refine r_iload_2 d_X10_counts_28 ?_
      refine r_aload_0 d_X10_counts_29 ?_
      refine r_get d_X10_counts_30 s10_sizes rfl rfl ?_
      refine r_iload_1 d_X10_counts_33 ?_
      refine r_iald d_X10_counts_34 rfl (pm_ixN (by omega) (by omega)) ?_
      rw [show va_up A 65 (pm_fc (fun j => nI (sp_cv (fun q => A 63 (64 * r + q)) j i)) (A 65) 31) 62 r = nI z from hz]
      refine r_icmp_ge d_X10_counts_35 (fun c35 => ?_) (fun c35 => ?_)
      · -- taken at 35
        have c35 : z ≤ i := (nI_leI (a := z) (b := i) (by omega) (by omega)).mp c35
        exfalso; omega
      · -- not taken at 35
        have c35 : ¬ z ≤ i := fun zz9 => c35 ((nI_leI (a := z) (b := i) (by omega) (by omega)).mpr zz9)
        refine r_aload_0 d_X10_counts_38 ?_
        refine r_iload_1 d_X10_counts_39 ?_
        refine r_iload_2 d_X10_counts_40 ?_
        refine r_V2 d_X10_counts_41 (c_X10_leaf (A := va_up A 65 (pm_fc (fun j => nI (sp_cv (fun q => A 63 (64 * r + q)) j i)) (A 65) 31)) hr (by omega)) rfl rfl rfl ⟨rfl, rfl⟩ (Nat.le_of_ble_eq_true rfl) ?_
        rw [show va_up A 65 (pm_fc (fun j => nI (sp_cv (fun q => A 63 (64 * r + q)) j i)) (A 65) 31) 63 (64 * r + i) = (fun q => A 63 (64 * r + q)) i from rfl]
        refine r_istore_3 d_X10_counts_44 (Nat.le_of_ble_eq_true rfl) (fun w hw => by cases hw <;> rfl) ?_
        refine r_iload_3 d_X10_counts_45 ?_
        refine r_push (v := nI 0) d_X10_counts_46 ?_
        refine r_push (v := nI 30) d_X10_counts_47 ?_
        refine r_S3 d_X10_counts_49 c_X10_in ⟨rfl, rfl⟩ (Nat.le_of_ble_eq_true rfl) ?_
        rw [show sp_in ((fun q => A 63 (64 * r + q)) i) (nI 0) (nI 30) = false from (sp_in_vb (fun q => A 63 (64 * r + q)) i).trans hx]
        show pm_V _ _ _ (.int (nI 0) :: _) _ _ _
        refine r_if_eq d_X10_counts_52 (fun c52 => ?_) (fun c52 => absurd (by decide) c52)
        clear c52
        refine r_iinc_2 d_X10_counts_75 (Nat.le_of_ble_eq_true rfl) (fun w hw => by cases hw <;> rfl) ?_
        rw [nI_1]
        refine r_goto d_X10_counts_78 ?_
        exact ih9 _
    | true =>
      obtain ⟨y, hy1, hxy⟩ := sp_in_0 (hi := 30) (by decide) ((sp_in_vb (fun q => A 63 (64 * r + q)) i).trans hx)
      have hcy := sp_cv_le (fun q => A 63 (64 * r + q)) y i
      rw [e9, hx, ← sp_cv_up (v := (fun q => A 63 (64 * r + q))) (i := i) (y := y) (by omega) hxy] at ih9
      refine r_iload_2 d_X10_counts_28 ?_
      refine r_aload_0 d_X10_counts_29 ?_
      refine r_get d_X10_counts_30 s10_sizes rfl rfl ?_
      refine r_iload_1 d_X10_counts_33 ?_
      refine r_iald d_X10_counts_34 rfl (pm_ixN (by omega) (by omega)) ?_
      rw [show va_up A 65 (pm_fc (fun j => nI (sp_cv (fun q => A 63 (64 * r + q)) j i)) (A 65) 31) 62 r = nI z from hz]
      refine r_icmp_ge d_X10_counts_35 (fun c35 => ?_) (fun c35 => ?_)
      · -- taken at 35
        have c35 : z ≤ i := (nI_leI (a := z) (b := i) (by omega) (by omega)).mp c35
        exfalso; omega
      · -- not taken at 35
        have c35 : ¬ z ≤ i := fun zz9 => c35 ((nI_leI (a := z) (b := i) (by omega) (by omega)).mpr zz9)
        refine r_aload_0 d_X10_counts_38 ?_
        refine r_iload_1 d_X10_counts_39 ?_
        refine r_iload_2 d_X10_counts_40 ?_
        refine r_V2 d_X10_counts_41 (c_X10_leaf (A := va_up A 65 (pm_fc (fun j => nI (sp_cv (fun q => A 63 (64 * r + q)) j i)) (A 65) 31)) hr (by omega)) rfl rfl rfl ⟨rfl, rfl⟩ (Nat.le_of_ble_eq_true rfl) ?_
        rw [show va_up A 65 (pm_fc (fun j => nI (sp_cv (fun q => A 63 (64 * r + q)) j i)) (A 65) 31) 63 (64 * r + i) = (fun q => A 63 (64 * r + q)) i from rfl]
        rw [show (fun q => A 63 (64 * r + q)) i = nI y from hxy]
        refine r_istore_3 d_X10_counts_44 (Nat.le_of_ble_eq_true rfl) (fun w hw => by cases hw <;> rfl) ?_
        refine r_iload_3 d_X10_counts_45 ?_
        refine r_push (v := nI 0) d_X10_counts_46 ?_
        refine r_push (v := nI 30) d_X10_counts_47 ?_
        refine r_S3 d_X10_counts_49 (c_X10_inN (by omega) (by omega) (by omega)) ⟨rfl, rfl⟩ (Nat.le_of_ble_eq_true rfl) ?_
        refine r_if_eq d_X10_counts_52 (fun c52 => absurd c52 (by decide)) (fun c52 => ?_)
        clear c52
        refine r_aload_0 d_X10_counts_55 ?_
        refine r_get d_X10_counts_56 s10_times rfl rfl ?_
        refine r_iload_3 d_X10_counts_59 ?_
        refine r_dup2 d_X10_counts_60 rfl rfl ?_
        refine r_iald d_X10_counts_61 rfl (pm_ixN (by omega) (by omega)) ?_
        rw [show va_up A 65 (pm_fc (fun j => nI (sp_cv (fun q => A 63 (64 * r + q)) j i)) (A 65) 31) 65 y = nI (sp_cv (fun q => A 63 (64 * r + q)) y i) from pm_fc_in (p := fun j => nI (sp_cv (fun q => A 63 (64 * r + q)) j i)) (f := A 65) (i := 31) (by omega)]
        refine r_push (v := nI 1) d_X10_counts_62 ?_
        refine r_iadd d_X10_counts_63 ?_
        rw [nI_add]
        refine r_iast d_X10_counts_64 rfl (pm_ixN (by omega) (by omega)) ?_
        rw [pmM_times, m_aua]
        refine r_aload_0 d_X10_counts_65 ?_
        refine r_dup d_X10_counts_66 rfl ?_
        refine r_get d_X10_counts_67 s10_counted rfl rfl ?_
        rw [show upd mi 3 (nI (sp_cn (fun q => A 63 (64 * r + q)) i)) 3 = nI (sp_cn (fun q => A 63 (64 * r + q)) i) from rfl]
        refine r_push (v := nI 1) d_X10_counts_70 ?_
        refine r_iadd d_X10_counts_71 ?_
        rw [nI_add]
        refine r_put d_X10_counts_72 s10_counted rfl (Nat.le_of_ble_eq_true rfl) ⟨rfl, rfl⟩ ?_
        rw [pmM_counted, m_uu]
        refine r_iinc_2 d_X10_counts_75 (Nat.le_of_ble_eq_true rfl) (fun w hw => by cases hw <;> rfl) ?_
        rw [nI_1]
        refine r_goto d_X10_counts_78 ?_
        exact ih9 _
set_option maxRecDepth 10000 in
set_option maxHeartbeats 4000000 in
theorem c_X10_counts {h : pm_H} {mi : Nat → Int32} {ml : Nat → Int64} {A : Nat → Nat → Int32} {B : Nat → Nat → Int64} {r z : Nat} (hr : r < 4) (hz : A 62 r = nI z) (hz64 : z ≤ 64) : pm_Cv e_X10_counts [.ref 44, .int (nI r)] (pmM h mi ml A B) (.int (nI (pm_bl (decide (0 < sp_cn (fun q => A 63 (64 * r + q)) z))))) (pmM h (upd mi 3 (nI (sp_cn (fun q => A 63 (64 * r + q)) z))) ml (va_up A 65 (pm_fc (fun j => nI (sp_cv (fun q => A 63 (64 * r + q)) j z)) (A 65) 31)) B) := by
  have hcn := sp_cn_le (fun q => A 63 (64 * r + q)) z
  refine pm_enter rfl (Nat.le_of_ble_eq_true rfl) ?_
  show pm_V e_X10_counts 0 [some (.ref 44), some (.int (nI r)), none, none] [] (pmM h mi ml A B) (0, 0) _
  refine r_push (v := nI 0) d_X10_counts_0 ?_
  refine r_istore_2 d_X10_counts_1 (Nat.le_of_ble_eq_true rfl) (fun w hw => by cases hw <;> rfl) ?_
  have K := lp_X10_counts (h := h) (mi := mi) (ml := ml) (A := A) (B := B) (r := r) (b := (0, 0)) (F := fun v h1 => v = some (.int (nI (pm_bl (decide (0 < sp_cn (fun q => A 63 (64 * r + q)) z))))) ∧ h1 = (pmM h (upd mi 3 (nI (sp_cn (fun q => A 63 (64 * r + q)) z))) ml (va_up A 65 (pm_fc (fun j => nI (sp_cv (fun q => A 63 (64 * r + q)) j z)) (A 65) 31)) B)) ?_ 31 0 (by omega)
  · rw [pm_fl_0, m_aus] at K
    exact K
  ·
    refine r_aload_0 d_X10_counts_21 ?_
    refine r_push (v := nI 0) d_X10_counts_22 ?_
    refine r_put d_X10_counts_23 s10_counted rfl (Nat.le_of_ble_eq_true rfl) ⟨rfl, rfl⟩ ?_
    rw [pmM_counted, pm_fl_cv (v := (fun q => A 63 (64 * r + q))), show upd mi 3 (nI 0) = upd mi 3 (nI (sp_cn (fun q => A 63 (64 * r + q)) 0)) from rfl]
    refine r_push (v := nI 0) d_X10_counts_26 ?_
    refine r_istore_2 d_X10_counts_27 (Nat.le_of_ble_eq_true rfl) (fun w hw => by cases hw <;> rfl) ?_
    refine lq_X10_counts hr hz hz64 (fun o3 => ?_) z 0 (by omega) none
    refine r_aload_0 d_X10_counts_81 ?_
    refine r_get d_X10_counts_82 s10_counted rfl rfl ?_
    rw [show upd mi 3 (nI (sp_cn (fun q => A 63 (64 * r + q)) z)) 3 = nI (sp_cn (fun q => A 63 (64 * r + q)) z) from rfl]
    refine r_if_le d_X10_counts_85 (fun c85 => ?_) (fun c85 => ?_)
    · -- taken at 85
      have c85 : (sp_cn (fun q => A 63 (64 * r + q)) z) ≤ 0 := (nI_leI (a := (sp_cn (fun q => A 63 (64 * r + q)) z)) (b := 0) (by omega) (by omega)).mp c85
      refine r_push (v := nI 0) d_X10_counts_92 ?_
      refine r_ireturn d_X10_counts_93 ⟨_, rfl, rfl⟩ ?_
      first | exact ⟨by rw [decide_eq_false (by omega)]; rfl, rfl⟩ | exact ⟨by rw [decide_eq_true (by omega)]; rfl, rfl⟩
    · -- not taken at 85
      have c85 : ¬ (sp_cn (fun q => A 63 (64 * r + q)) z) ≤ 0 := fun zz9 => c85 ((nI_leI (a := (sp_cn (fun q => A 63 (64 * r + q)) z)) (b := 0) (by omega) (by omega)).mpr zz9)
      refine r_push (v := nI 1) d_X10_counts_88 ?_
      refine r_goto d_X10_counts_89 ?_
      refine r_ireturn d_X10_counts_93 ⟨_, rfl, rfl⟩ ?_
      first | exact ⟨by rw [decide_eq_false (by omega)]; rfl, rfl⟩ | exact ⟨by rw [decide_eq_true (by omega)]; rfl, rfl⟩
