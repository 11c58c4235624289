theorem m_us1 {D : Nat} (hD : 0 < D) : lN 0 = lN (m_u 0 D) ∧ lN 1 = lN (m_l 0 D) := by
  rw [m_u0, m_l0 hD]; exact ⟨rfl, rfl⟩
theorem m_US_up1 {n : Nat} {nu nl : Nat → Int64} {w : Nat → Nat} {D t v : Nat} (h : m_US nu nl w D n) : m_US (vp_updL nu t (lN (m_u v D))) (vp_updL nl t (lN (m_l v D))) (va_up w t v) D n := fun j hj => by
  by_cases e : j = t
  · subst e; simp [vp_updL, va_up]
  · simp only [vp_updL, va_up, if_neg e]; exact h j hj
set_option maxRecDepth 10000 in
set_option maxHeartbeats 4000000 in
theorem c_X10_setOdds0 {h : pm_H} {mi : Nat → Int32} {ml : Nat → Int64} {A : Nat → Nat → Int32} {B : Nat → Nat → Int64} {c : Nat} {w0 : Nat → Nat} (hc : c < 10) (hk : A 46 c = nI 0) : pm_Cl e_X10_setOdds [.ref 44, .int (nI c)] (pmM h mi ml A B) (fun v9 h1 => v9 = none ∧ ∃ mx B1, h1 = pmM h mi mx A B1 ∧ m_ml ml mx ∧ m_US (B1 56) (B1 57) (va_up (pm_fl 0 w0 31) 7 1) 1 31) := by
  refine pm_enter rfl (Nat.le_of_ble_eq_true rfl) ?_
  show pm_V e_X10_setOdds 0 [some (.ref 44), some (.int (nI c)), none, none] [] (pmM h mi ml A B) (0, 0) _
  refine r_aload_0 d_X10_setOdds_0 ?_
  refine r_V0v d_X10_setOdds_1 c_X10_clearOdds rfl rfl rfl ⟨rfl, rfl⟩ (Nat.le_of_ble_eq_true rfl) ?_
  refine r_aload_0 d_X10_setOdds_4 ?_
  refine r_iload_1 d_X10_setOdds_5 ?_
  refine r_V1 d_X10_setOdds_6 (c_X10_parts hc (kd := 0) hk (by decide)) rfl rfl rfl ⟨rfl, rfl⟩ (Nat.le_of_ble_eq_true rfl) ?_
  show pm_V _ _ _ (.int (nI 0) :: _) _ _ _
  refine r_if_ne d_X10_setOdds_9 (fun c9 => absurd (by decide) c9) (fun c9 => ?_)
  clear c9
  refine r_aload_0 d_X10_setOdds_12 ?_
  refine r_get d_X10_setOdds_13 s10_oddsUp rfl rfl ?_
  refine r_push (v := nI 6) d_X10_setOdds_16 ?_
  refine r_aload_0 d_X10_setOdds_18 ?_
  refine r_get d_X10_setOdds_19 s10_kinds rfl rfl ?_
  refine r_iload_1 d_X10_setOdds_22 ?_
  refine r_iald d_X10_setOdds_23 rfl (pm_ixN (by omega) (by omega)) ?_
  rw [hk]
  refine r_push (v := nI 2) d_X10_setOdds_24 ?_
  refine r_icmp_ne d_X10_setOdds_25 (fun c25 => ?_) (fun c25 => absurd c25 (by decide))
  clear c25
  refine r_pushl (v := lN 0) d_X10_setOdds_32 ?_
  refine r_last d_X10_setOdds_33 rfl (pm_ixN (by omega) (by omega)) ?_
  rw [pmM_oddsUp, m_auc _ 56 57 _ _ _ (by decide)]
  refine r_aload_0 d_X10_setOdds_34 ?_
  refine r_get d_X10_setOdds_35 s10_oddsUp rfl rfl ?_
  refine r_push (v := nI 7) d_X10_setOdds_38 ?_
  refine r_aload_0 d_X10_setOdds_40 ?_
  refine r_get d_X10_setOdds_41 s10_kinds rfl rfl ?_
  refine r_iload_1 d_X10_setOdds_44 ?_
  refine r_iald d_X10_setOdds_45 rfl (pm_ixN (by omega) (by omega)) ?_
  rw [hk]
  refine r_push (v := nI 2) d_X10_setOdds_46 ?_
  refine r_icmp_ne d_X10_setOdds_47 (fun c47 => ?_) (fun c47 => absurd c47 (by decide))
  clear c47
  refine r_pushl (v := lN 1) d_X10_setOdds_56 ?_
  refine r_last d_X10_setOdds_57 rfl (pm_ixN (by omega) (by omega)) ?_
  rw [pmM_oddsUp, m_auc _ 56 57 _ _ _ (by decide)]
  refine r_aload_0 d_X10_setOdds_58 ?_
  refine r_get d_X10_setOdds_59 s10_oddsUp rfl rfl ?_
  refine r_push (v := nI 8) d_X10_setOdds_62 ?_
  refine r_aload_0 d_X10_setOdds_64 ?_
  refine r_get d_X10_setOdds_65 s10_kinds rfl rfl ?_
  refine r_iload_1 d_X10_setOdds_68 ?_
  refine r_iald d_X10_setOdds_69 rfl (pm_ixN (by omega) (by omega)) ?_
  rw [hk]
  refine r_push (v := nI 2) d_X10_setOdds_70 ?_
  refine r_icmp_ne d_X10_setOdds_71 (fun c71 => ?_) (fun c71 => absurd c71 (by decide))
  clear c71
  refine r_pushl (v := lN 0) d_X10_setOdds_80 ?_
  refine r_last d_X10_setOdds_81 rfl (pm_ixN (by omega) (by omega)) ?_
  rw [pmM_oddsUp, m_auc _ 56 57 _ _ _ (by decide)]
  refine r_aload_0 d_X10_setOdds_82 ?_
  refine r_get d_X10_setOdds_83 s10_oddsUp rfl rfl ?_
  refine r_push (v := nI 9) d_X10_setOdds_86 ?_
  refine r_aload_0 d_X10_setOdds_88 ?_
  refine r_get d_X10_setOdds_89 s10_kinds rfl rfl ?_
  refine r_iload_1 d_X10_setOdds_92 ?_
  refine r_iald d_X10_setOdds_93 rfl (pm_ixN (by omega) (by omega)) ?_
  rw [hk]
  refine r_push (v := nI 2) d_X10_setOdds_94 ?_
  refine r_icmp_ne d_X10_setOdds_95 (fun c95 => ?_) (fun c95 => absurd c95 (by decide))
  clear c95
  refine r_pushl (v := lN 0) d_X10_setOdds_102 ?_
  refine r_last d_X10_setOdds_103 rfl (pm_ixN (by omega) (by omega)) ?_
  rw [pmM_oddsUp, m_auc _ 56 57 _ _ _ (by decide)]
  refine r_push (v := nI 6) d_X10_setOdds_104 ?_
  refine r_istore_2 d_X10_setOdds_106 (Nat.le_of_ble_eq_true rfl) (fun w hw => by cases hw <;> rfl) ?_
  refine r_iload_2 d_X10_setOdds_107 ?_
  refine r_push (v := nI 10) d_X10_setOdds_108 ?_
  refine r_icmp_ge d_X10_setOdds_110 (fun c110 => absurd c110 (by decide)) (fun c110 => ?_)
  clear c110
  refine r_aload_0 d_X10_setOdds_113 ?_
  refine r_get d_X10_setOdds_114 s10_kinds rfl rfl ?_
  refine r_iload_1 d_X10_setOdds_117 ?_
  refine r_iald d_X10_setOdds_118 rfl (pm_ixN (by omega) (by omega)) ?_
  rw [hk]
  refine r_push (v := nI 2) d_X10_setOdds_119 ?_
  refine r_icmp_ne d_X10_setOdds_120 (fun c120 => ?_) (fun c120 => absurd c120 (by decide))
  clear c120
  refine r_return d_X10_setOdds_138 rfl ?_
  refine ⟨rfl, ml, _, rfl, fun q _ _ => rfl, fun j hj => ?_⟩
  rcases (show j = 7 ∨ j ≠ 7 by omega) with rfl | h7
  · exact ⟨show lN 1 = lN (m_u 1 1) from rfl, show lN 1 = lN (m_l 1 1) from rfl⟩
  · have hw : (va_up (pm_fl 0 w0 31) 7 1) j = 0 := by simp [va_up, pm_fl, h7, hj]
    rw [hw]
    refine ⟨Eq.trans ?_ (m_us1 (D := 1) (by decide)).1, Eq.trans ?_ (m_us1 (D := 1) (by decide)).2⟩
    · by_cases h6 : j = 6
      · subst h6; rfl
      · by_cases h8 : j = 8
        · subst h8; rfl
        · by_cases h9 : j = 9
          · subst h9; rfl
          · exact (if_neg h9).trans ((if_neg h8).trans ((if_neg h7).trans ((if_neg h6).trans (if_pos hj))))
    · exact if_pos hj
set_option maxRecDepth 10000 in
set_option maxHeartbeats 4000000 in
theorem c_X10_setOdds2 {h : pm_H} {mi : Nat → Int32} {ml : Nat → Int64} {A : Nat → Nat → Int32} {B : Nat → Nat → Int64} {c : Nat} {w0 : Nat → Nat} (hc : c < 10) (hk : A 46 c = nI 2) : pm_Cl e_X10_setOdds [.ref 44, .int (nI c)] (pmM h mi ml A B) (fun v9 h1 => v9 = none ∧ ∃ mx B1, h1 = pmM h mi mx A B1 ∧ m_ml ml mx ∧ m_US (B1 56) (B1 57) (va_up (va_up (va_up (va_up (pm_fl 0 w0 31) 6 1) 7 3) 8 3) 9 1) 8 31) := by
  refine pm_enter rfl (Nat.le_of_ble_eq_true rfl) ?_
  show pm_V e_X10_setOdds 0 [some (.ref 44), some (.int (nI c)), none, none] [] (pmM h mi ml A B) (0, 0) _
  refine r_aload_0 d_X10_setOdds_0 ?_
  refine r_V0v d_X10_setOdds_1 c_X10_clearOdds rfl rfl rfl ⟨rfl, rfl⟩ (Nat.le_of_ble_eq_true rfl) ?_
  refine r_aload_0 d_X10_setOdds_4 ?_
  refine r_iload_1 d_X10_setOdds_5 ?_
  refine r_V1 d_X10_setOdds_6 (c_X10_parts hc (kd := 2) hk (by decide)) rfl rfl rfl ⟨rfl, rfl⟩ (Nat.le_of_ble_eq_true rfl) ?_
  show pm_V _ _ _ (.int (nI 0) :: _) _ _ _
  refine r_if_ne d_X10_setOdds_9 (fun c9 => absurd (by decide) c9) (fun c9 => ?_)
  clear c9
  refine r_aload_0 d_X10_setOdds_12 ?_
  refine r_get d_X10_setOdds_13 s10_oddsUp rfl rfl ?_
  refine r_push (v := nI 6) d_X10_setOdds_16 ?_
  refine r_aload_0 d_X10_setOdds_18 ?_
  refine r_get d_X10_setOdds_19 s10_kinds rfl rfl ?_
  refine r_iload_1 d_X10_setOdds_22 ?_
  refine r_iald d_X10_setOdds_23 rfl (pm_ixN (by omega) (by omega)) ?_
  rw [hk]
  refine r_push (v := nI 2) d_X10_setOdds_24 ?_
  refine r_icmp_ne d_X10_setOdds_25 (fun c25 => absurd (by decide) c25) (fun c25 => ?_)
  clear c25
  refine r_pushl (v := lN 1) d_X10_setOdds_28 ?_
  refine r_goto d_X10_setOdds_29 ?_
  refine r_last d_X10_setOdds_33 rfl (pm_ixN (by omega) (by omega)) ?_
  rw [pmM_oddsUp, m_auc _ 56 57 _ _ _ (by decide)]
  refine r_aload_0 d_X10_setOdds_34 ?_
  refine r_get d_X10_setOdds_35 s10_oddsUp rfl rfl ?_
  refine r_push (v := nI 7) d_X10_setOdds_38 ?_
  refine r_aload_0 d_X10_setOdds_40 ?_
  refine r_get d_X10_setOdds_41 s10_kinds rfl rfl ?_
  refine r_iload_1 d_X10_setOdds_44 ?_
  refine r_iald d_X10_setOdds_45 rfl (pm_ixN (by omega) (by omega)) ?_
  rw [hk]
  refine r_push (v := nI 2) d_X10_setOdds_46 ?_
  refine r_icmp_ne d_X10_setOdds_47 (fun c47 => absurd (by decide) c47) (fun c47 => ?_)
  clear c47
  refine r_pushl (v := lN 3) d_X10_setOdds_50 ?_
  refine r_goto d_X10_setOdds_53 ?_
  refine r_last d_X10_setOdds_57 rfl (pm_ixN (by omega) (by omega)) ?_
  rw [pmM_oddsUp, m_auc _ 56 57 _ _ _ (by decide)]
  refine r_aload_0 d_X10_setOdds_58 ?_
  refine r_get d_X10_setOdds_59 s10_oddsUp rfl rfl ?_
  refine r_push (v := nI 8) d_X10_setOdds_62 ?_
  refine r_aload_0 d_X10_setOdds_64 ?_
  refine r_get d_X10_setOdds_65 s10_kinds rfl rfl ?_
  refine r_iload_1 d_X10_setOdds_68 ?_
  refine r_iald d_X10_setOdds_69 rfl (pm_ixN (by omega) (by omega)) ?_
  rw [hk]
  refine r_push (v := nI 2) d_X10_setOdds_70 ?_
  refine r_icmp_ne d_X10_setOdds_71 (fun c71 => absurd (by decide) c71) (fun c71 => ?_)
  clear c71
  refine r_pushl (v := lN 3) d_X10_setOdds_74 ?_
  refine r_goto d_X10_setOdds_77 ?_
  refine r_last d_X10_setOdds_81 rfl (pm_ixN (by omega) (by omega)) ?_
  rw [pmM_oddsUp, m_auc _ 56 57 _ _ _ (by decide)]
  refine r_aload_0 d_X10_setOdds_82 ?_
  refine r_get d_X10_setOdds_83 s10_oddsUp rfl rfl ?_
  refine r_push (v := nI 9) d_X10_setOdds_86 ?_
  refine r_aload_0 d_X10_setOdds_88 ?_
  refine r_get d_X10_setOdds_89 s10_kinds rfl rfl ?_
  refine r_iload_1 d_X10_setOdds_92 ?_
  refine r_iald d_X10_setOdds_93 rfl (pm_ixN (by omega) (by omega)) ?_
  rw [hk]
  refine r_push (v := nI 2) d_X10_setOdds_94 ?_
  refine r_icmp_ne d_X10_setOdds_95 (fun c95 => absurd (by decide) c95) (fun c95 => ?_)
  clear c95
  refine r_pushl (v := lN 1) d_X10_setOdds_98 ?_
  refine r_goto d_X10_setOdds_99 ?_
  refine r_last d_X10_setOdds_103 rfl (pm_ixN (by omega) (by omega)) ?_
  rw [pmM_oddsUp, m_auc _ 56 57 _ _ _ (by decide)]
  refine r_push (v := nI 6) d_X10_setOdds_104 ?_
  refine r_istore_2 d_X10_setOdds_106 (Nat.le_of_ble_eq_true rfl) (fun w hw => by cases hw <;> rfl) ?_
  refine r_iload_2 d_X10_setOdds_107 ?_
  refine r_push (v := nI 10) d_X10_setOdds_108 ?_
  refine r_icmp_ge d_X10_setOdds_110 (fun c110 => absurd c110 (by decide)) (fun c110 => ?_)
  clear c110
  refine r_aload_0 d_X10_setOdds_113 ?_
  refine r_get d_X10_setOdds_114 s10_kinds rfl rfl ?_
  refine r_iload_1 d_X10_setOdds_117 ?_
  refine r_iald d_X10_setOdds_118 rfl (pm_ixN (by omega) (by omega)) ?_
  rw [hk]
  refine r_push (v := nI 2) d_X10_setOdds_119 ?_
  refine r_icmp_ne d_X10_setOdds_120 (fun c120 => absurd (by decide) c120) (fun c120 => ?_)
  clear c120
  refine r_aload_0 d_X10_setOdds_123 ?_
  refine r_get d_X10_setOdds_124 s10_oddsLow rfl rfl ?_
  refine r_iload_2 d_X10_setOdds_127 ?_
  refine r_pushl (v := lN 8) d_X10_setOdds_128 ?_
  refine r_last d_X10_setOdds_131 rfl (pm_ixN (by omega) (by omega)) ?_
  rw [pmM_oddsLow, m_au3]
  refine r_iinc_2 d_X10_setOdds_132 (Nat.le_of_ble_eq_true rfl) (fun w hw => by cases hw <;> rfl) ?_
  rw [show nI 6 + 1 = nI 7 from rfl]
  refine r_goto d_X10_setOdds_135 ?_
  refine r_iload_2 d_X10_setOdds_107 ?_
  refine r_push (v := nI 10) d_X10_setOdds_108 ?_
  refine r_icmp_ge d_X10_setOdds_110 (fun c110 => absurd c110 (by decide)) (fun c110 => ?_)
  clear c110
  refine r_aload_0 d_X10_setOdds_113 ?_
  refine r_get d_X10_setOdds_114 s10_kinds rfl rfl ?_
  refine r_iload_1 d_X10_setOdds_117 ?_
  refine r_iald d_X10_setOdds_118 rfl (pm_ixN (by omega) (by omega)) ?_
  rw [hk]
  refine r_push (v := nI 2) d_X10_setOdds_119 ?_
  refine r_icmp_ne d_X10_setOdds_120 (fun c120 => absurd (by decide) c120) (fun c120 => ?_)
  clear c120
  refine r_aload_0 d_X10_setOdds_123 ?_
  refine r_get d_X10_setOdds_124 s10_oddsLow rfl rfl ?_
  refine r_iload_2 d_X10_setOdds_127 ?_
  refine r_pushl (v := lN 8) d_X10_setOdds_128 ?_
  refine r_last d_X10_setOdds_131 rfl (pm_ixN (by omega) (by omega)) ?_
  rw [pmM_oddsLow, m_au3]
  refine r_iinc_2 d_X10_setOdds_132 (Nat.le_of_ble_eq_true rfl) (fun w hw => by cases hw <;> rfl) ?_
  rw [show nI 7 + 1 = nI 8 from rfl]
  refine r_goto d_X10_setOdds_135 ?_
  refine r_iload_2 d_X10_setOdds_107 ?_
  refine r_push (v := nI 10) d_X10_setOdds_108 ?_
  refine r_icmp_ge d_X10_setOdds_110 (fun c110 => absurd c110 (by decide)) (fun c110 => ?_)
  clear c110
  refine r_aload_0 d_X10_setOdds_113 ?_
  refine r_get d_X10_setOdds_114 s10_kinds rfl rfl ?_
  refine r_iload_1 d_X10_setOdds_117 ?_
  refine r_iald d_X10_setOdds_118 rfl (pm_ixN (by omega) (by omega)) ?_
  rw [hk]
  refine r_push (v := nI 2) d_X10_setOdds_119 ?_
  refine r_icmp_ne d_X10_setOdds_120 (fun c120 => absurd (by decide) c120) (fun c120 => ?_)
  clear c120
  refine r_aload_0 d_X10_setOdds_123 ?_
  refine r_get d_X10_setOdds_124 s10_oddsLow rfl rfl ?_
  refine r_iload_2 d_X10_setOdds_127 ?_
  refine r_pushl (v := lN 8) d_X10_setOdds_128 ?_
  refine r_last d_X10_setOdds_131 rfl (pm_ixN (by omega) (by omega)) ?_
  rw [pmM_oddsLow, m_au3]
  refine r_iinc_2 d_X10_setOdds_132 (Nat.le_of_ble_eq_true rfl) (fun w hw => by cases hw <;> rfl) ?_
  rw [show nI 8 + 1 = nI 9 from rfl]
  refine r_goto d_X10_setOdds_135 ?_
  refine r_iload_2 d_X10_setOdds_107 ?_
  refine r_push (v := nI 10) d_X10_setOdds_108 ?_
  refine r_icmp_ge d_X10_setOdds_110 (fun c110 => absurd c110 (by decide)) (fun c110 => ?_)
  clear c110
  refine r_aload_0 d_X10_setOdds_113 ?_
  refine r_get d_X10_setOdds_114 s10_kinds rfl rfl ?_
  refine r_iload_1 d_X10_setOdds_117 ?_
  refine r_iald d_X10_setOdds_118 rfl (pm_ixN (by omega) (by omega)) ?_
  rw [hk]
  refine r_push (v := nI 2) d_X10_setOdds_119 ?_
  refine r_icmp_ne d_X10_setOdds_120 (fun c120 => absurd (by decide) c120) (fun c120 => ?_)
  clear c120
  refine r_aload_0 d_X10_setOdds_123 ?_
  refine r_get d_X10_setOdds_124 s10_oddsLow rfl rfl ?_
  refine r_iload_2 d_X10_setOdds_127 ?_
  refine r_pushl (v := lN 8) d_X10_setOdds_128 ?_
  refine r_last d_X10_setOdds_131 rfl (pm_ixN (by omega) (by omega)) ?_
  rw [pmM_oddsLow, m_au3]
  refine r_iinc_2 d_X10_setOdds_132 (Nat.le_of_ble_eq_true rfl) (fun w hw => by cases hw <;> rfl) ?_
  rw [show nI 9 + 1 = nI 10 from rfl]
  refine r_goto d_X10_setOdds_135 ?_
  refine r_iload_2 d_X10_setOdds_107 ?_
  refine r_push (v := nI 10) d_X10_setOdds_108 ?_
  refine r_icmp_ge d_X10_setOdds_110 (fun c110 => ?_) (fun c110 => absurd (by decide) c110)
  clear c110
  refine r_return d_X10_setOdds_138 rfl ?_
  refine ⟨rfl, ml, _, rfl, fun q _ _ => rfl, fun j hj => ?_⟩
  rcases (show j = 6 ∨ j = 7 ∨ j = 8 ∨ j = 9 ∨ (j ≠ 6 ∧ j ≠ 7 ∧ j ≠ 8 ∧ j ≠ 9) by omega) with rfl | rfl | rfl | rfl | ⟨h6, h7, h8, h9⟩
  · exact ⟨show lN 1 = lN (m_u 1 8) from rfl, show lN 8 = lN (m_l 1 8) from rfl⟩
  · exact ⟨show lN 3 = lN (m_u 3 8) from rfl, show lN 8 = lN (m_l 3 8) from rfl⟩
  · exact ⟨show lN 3 = lN (m_u 3 8) from rfl, show lN 8 = lN (m_l 3 8) from rfl⟩
  · exact ⟨show lN 1 = lN (m_u 1 8) from rfl, show lN 8 = lN (m_l 1 8) from rfl⟩
  · have hw : (va_up (va_up (va_up (va_up (pm_fl 0 w0 31) 6 1) 7 3) 8 3) 9 1) j = 0 := by simp [va_up, pm_fl, h6, h7, h8, h9, hj]
    rw [hw]
    refine ⟨Eq.trans ?_ (m_us1 (D := 8) (by decide)).1, Eq.trans ?_ (m_us1 (D := 8) (by decide)).2⟩
    · exact (if_neg h9).trans ((if_neg h8).trans ((if_neg h7).trans ((if_neg h6).trans (if_pos hj))))
    · exact (if_neg h9).trans ((if_neg h8).trans ((if_neg h7).trans ((if_neg h6).trans (if_pos hj))))
set_option maxRecDepth 10000 in
set_option maxHeartbeats 4000000 in
theorem l0_X10_setOdds {h : pm_H} {mi : Nat → Int32} {ml : Nat → Int64} {A : Nat → Nat → Int32} {B : Nat → Nat → Int64} {c m : Nat} (hc : c < 10) (hm : A 47 c = nI m) (hm60 : m ≤ 60) {F : Option Value → pm_H → Prop} {b9 : Nat × Nat} (K : ∀ u l : Nat → Int64, (∀ j, j < 61 → u j = lN (if j = m then 1 else 0) ∧ l j = lN 1) → pm_V e_X10_setOdds 181 [some (.ref 44), some (.int (nI c)), some (.int (nI 61)), none] [] (pmM h mi ml A (va_up (va_up B 52 u) 53 l)) b9 F) : ∀ (d i : Nat) (u l : Nat → Int64), i + d = 61 → (∀ j, j < i → u j = lN (if j = m then 1 else 0) ∧ l j = lN 1) → pm_V e_X10_setOdds 141 [some (.ref 44), some (.int (nI c)), some (.int (nI i)), none] [] (pmM h mi ml A (va_up (va_up B 52 u) 53 l)) b9 F := by
  intro d
  induction d with
  | zero =>
    intro i u l hid hq
    obtain rfl : i = 61 := by omega
    refine r_iload_2 d_X10_setOdds_141 ?_
    refine r_push (v := nI 60) d_X10_setOdds_142 ?_
    refine r_icmp_gt d_X10_setOdds_144 (fun c144 => ?_) (fun c144 => absurd (by decide) c144)
    clear c144
    exact K _ _ hq
  | succ d ih =>
    intro i u l hid hq
    refine r_iload_2 d_X10_setOdds_141 ?_
    refine r_push (v := nI 60) d_X10_setOdds_142 ?_
    refine r_icmp_gt d_X10_setOdds_144 (fun c144 => ?_) (fun c144 => ?_)
    · -- taken at 144
      have c144 : 60 < i := (nI_ltI (a := 60) (b := i) (by omega) (by omega)).mp c144
      exfalso; omega
    · -- not taken at 144
      have c144 : ¬ 60 < i := fun zz9 => c144 ((nI_ltI (a := 60) (b := i) (by omega) (by omega)).mpr zz9)
      refine r_aload_0 d_X10_setOdds_147 ?_
      refine r_get d_X10_setOdds_148 s10_ups rfl rfl ?_
      refine r_iload_2 d_X10_setOdds_151 ?_
      refine r_iload_2 d_X10_setOdds_152 ?_
      refine r_aload_0 d_X10_setOdds_153 ?_
      refine r_get d_X10_setOdds_154 s10_sticks rfl rfl ?_
      refine r_iload_1 d_X10_setOdds_157 ?_
      refine r_iald d_X10_setOdds_158 rfl (pm_ixN (by omega) (by omega)) ?_
      rw [hm]
      refine r_icmp_ne d_X10_setOdds_159 (fun c159 => ?_) (fun c159 => ?_)
      · -- taken at 159
        have c159 : ¬ i = m := fun zz9 => c159 ((nI_eq (a := i) (b := m) (by omega) (by omega)).mpr zz9)
        refine r_pushl (v := lN 0) d_X10_setOdds_166 ?_
        refine r_last d_X10_setOdds_167 rfl (pm_ixN (by omega) (by omega)) ?_
        rw [pmM_ups, m_auc _ 52 53 _ _ _ (by decide), show va_up (va_up B 52 u) 53 l 52 = u from rfl]
        refine r_aload_0 d_X10_setOdds_168 ?_
        refine r_get d_X10_setOdds_169 s10_lowers rfl rfl ?_
        refine r_iload_2 d_X10_setOdds_172 ?_
        refine r_pushl (v := lN 1) d_X10_setOdds_173 ?_
        refine r_last d_X10_setOdds_174 rfl (pm_ixN (by omega) (by omega)) ?_
        rw [pmM_lowers, m_au3]
        refine r_iinc_2 d_X10_setOdds_175 (Nat.le_of_ble_eq_true rfl) (fun w hw => by cases hw <;> rfl) ?_
        rw [nI_1]
        refine r_goto d_X10_setOdds_178 ?_
        first
        | (refine ih (i + 1) _ _ (by omega) (fun j hj => ?_); by_cases e : j = i; (subst e; exact ⟨(if_pos rfl).trans (by rw [if_pos c159]), if_pos rfl⟩); exact ⟨(if_neg e).trans (hq j (by omega)).1, (if_neg e).trans (hq j (by omega)).2⟩)
        | (refine ih (i + 1) _ _ (by omega) (fun j hj => ?_); by_cases e : j = i; (subst e; exact ⟨(if_pos rfl).trans (by rw [if_neg c159]), if_pos rfl⟩); exact ⟨(if_neg e).trans (hq j (by omega)).1, (if_neg e).trans (hq j (by omega)).2⟩)
      · -- not taken at 159
        have c159 : i = m := (nI_eq (a := i) (b := m) (by omega) (by omega)).mp c159
        refine r_pushl (v := lN 1) d_X10_setOdds_162 ?_
        refine r_goto d_X10_setOdds_163 ?_
        refine r_last d_X10_setOdds_167 rfl (pm_ixN (by omega) (by omega)) ?_
        rw [pmM_ups, m_auc _ 52 53 _ _ _ (by decide), show va_up (va_up B 52 u) 53 l 52 = u from rfl]
        refine r_aload_0 d_X10_setOdds_168 ?_
        refine r_get d_X10_setOdds_169 s10_lowers rfl rfl ?_
        refine r_iload_2 d_X10_setOdds_172 ?_
        refine r_pushl (v := lN 1) d_X10_setOdds_173 ?_
        refine r_last d_X10_setOdds_174 rfl (pm_ixN (by omega) (by omega)) ?_
        rw [pmM_lowers, m_au3]
        refine r_iinc_2 d_X10_setOdds_175 (Nat.le_of_ble_eq_true rfl) (fun w hw => by cases hw <;> rfl) ?_
        rw [nI_1]
        refine r_goto d_X10_setOdds_178 ?_
        first
        | (refine ih (i + 1) _ _ (by omega) (fun j hj => ?_); by_cases e : j = i; (subst e; exact ⟨(if_pos rfl).trans (by rw [if_pos c159]), if_pos rfl⟩); exact ⟨(if_neg e).trans (hq j (by omega)).1, (if_neg e).trans (hq j (by omega)).2⟩)
        | (refine ih (i + 1) _ _ (by omega) (fun j hj => ?_); by_cases e : j = i; (subst e; exact ⟨(if_pos rfl).trans (by rw [if_neg c159]), if_pos rfl⟩); exact ⟨(if_neg e).trans (hq j (by omega)).1, (if_neg e).trans (hq j (by omega)).2⟩)
set_option maxRecDepth 10000 in
set_option maxHeartbeats 4000000 in
theorem l1_X10_setOdds {h : pm_H} {mi : Nat → Int32} {ml : Nat → Int64} {A : Nat → Nat → Int32} {B : Nat → Nat → Int64} {c k D : Nat} {Hp g0 : Nat → Nat} (hc : c < 10) (hk : 2 ≤ k ∧ k ≤ 8) (hkk : A 48 c = nI k) (hU : m_US (B 52) (B 53) Hp D 61) (hD : 0 < D) (hD2 : D < 2 ^ 62) (hsum : sp_sum Hp 61 = D) (hg0 : sp_sum g0 31 = 0) {F : Option Value → pm_H → Prop} {b9 : Nat × Nat} (K : ∀ mx ou ol o3, m_ml ml mx → m_US ou ol (sp_ww k Hp g0 61) D 31 → pm_V e_X10_setOdds 270 [some (.ref 44), some (.int (nI c)), some (.int (nI 61)), o3] [] (pmM h mi mx A (va_up (va_up B 56 ou) 57 ol)) b9 F) : ∀ (d i : Nat) (mx ou ol : Nat → Int64) (o3 : Option Value), i + d = 61 → m_ml ml mx → m_US ou ol (sp_ww k Hp g0 i) D 31 → pm_V e_X10_setOdds 201 [some (.ref 44), some (.int (nI c)), some (.int (nI i)), o3] [] (pmM h mi mx A (va_up (va_up B 56 ou) 57 ol)) b9 F := by
  intro d
  induction d with
  | zero =>
    intro i mx ou ol o3 hid hm hV
    obtain rfl : i = 61 := by omega
    refine r_iload_2 d_X10_setOdds_201 ?_
    refine r_push (v := nI 60) d_X10_setOdds_202 ?_
    refine r_icmp_gt d_X10_setOdds_204 (fun c204 => ?_) (fun c204 => absurd (by decide) c204)
    clear c204
    exact K _ _ _ _ hm hV
  | succ d ih =>
    intro i mx ou ol o3 hid hm hV
    have hdk : i / k ≤ 30 := Nat.le_trans (Nat.div_le_div_right (show i ≤ 60 by omega)) (Nat.div_le_div_left hk.1 (by decide))
    obtain ⟨v, hv⟩ : ∃ v, i / k = v := ⟨_, rfl⟩
    rw [hv] at hdk
    obtain ⟨u1, u2⟩ := hU i (by omega)
    obtain ⟨v1, v2⟩ := hV v (by omega)
    have hs1 := sp_ww_sum (k := k) (Hp := Hp) (g := g0) hk.1 i (by omega)
    have hs2 := sp_sum_ge (f := (sp_ww k Hp g0 i)) (k := v) (n := 31) (by omega)
    have hs3 : sp_sum Hp i + Hp i ≤ D := by rw [← hsum]; exact sp_sum_mo (f := Hp) (m := i + 1) (n := 61) (by omega)
    have hww : (sp_ww k Hp g0 (i + 1)) = va_up (sp_ww k Hp g0 i) v ((sp_ww k Hp g0 i) v + Hp i) := by rw [← hv]; rfl
    refine r_iload_2 d_X10_setOdds_201 ?_
    refine r_push (v := nI 60) d_X10_setOdds_202 ?_
    refine r_icmp_gt d_X10_setOdds_204 (fun c204 => ?_) (fun c204 => ?_)
    · -- taken at 204
      have c204 : 60 < i := (nI_ltI (a := 60) (b := i) (by omega) (by omega)).mp c204
      exfalso; omega
    · -- not taken at 204
      have c204 : ¬ 60 < i := fun zz9 => c204 ((nI_ltI (a := 60) (b := i) (by omega) (by omega)).mpr zz9)
      refine r_iload_2 d_X10_setOdds_207 ?_
      refine r_aload_0 d_X10_setOdds_208 ?_
      refine r_get d_X10_setOdds_209 s10_counts rfl rfl ?_
      refine r_iload_1 d_X10_setOdds_212 ?_
      refine r_iald d_X10_setOdds_213 rfl (pm_ixN (by omega) (by omega)) ?_
      rw [hkk]
      refine r_idiv d_X10_setOdds_214 (nI_ne0 (n := k) (by omega) (by omega)) ?_
      rw [pk_div (a := i) (d := k) (by omega) (by omega) (by omega)]
      rw [hv]
      refine r_istore_3 d_X10_setOdds_215 (Nat.le_of_ble_eq_true rfl) (fun w hw => by cases hw <;> rfl) ?_
      refine r_aload_0 d_X10_setOdds_216 ?_
      refine r_aload_0 d_X10_setOdds_217 ?_
      refine r_get d_X10_setOdds_218 s10_oddsUp rfl rfl ?_
      refine r_iload_3 d_X10_setOdds_221 ?_
      refine r_lald d_X10_setOdds_222 rfl (pm_ixN (by omega) (by omega)) ?_
      rw [show va_up (va_up B 56 ou) 57 ol 56 v = lN (m_u (sp_ww k Hp g0 i v) D) from v1]
      refine r_aload_0 d_X10_setOdds_223 ?_
      refine r_get d_X10_setOdds_224 s10_oddsLow rfl rfl ?_
      refine r_iload_3 d_X10_setOdds_227 ?_
      refine r_lald d_X10_setOdds_228 rfl (pm_ixN (by omega) (by omega)) ?_
      rw [show va_up (va_up B 56 ou) 57 ol 57 v = lN (m_l (sp_ww k Hp g0 i v) D) from v2]
      refine r_aload_0 d_X10_setOdds_229 ?_
      refine r_get d_X10_setOdds_230 s10_ups rfl rfl ?_
      refine r_iload_2 d_X10_setOdds_233 ?_
      refine r_lald d_X10_setOdds_234 rfl (pm_ixN (by omega) (by omega)) ?_
      rw [show va_up (va_up B 56 ou) 57 ol 52 i = lN (m_u (Hp i) D) from u1]
      refine r_aload_0 d_X10_setOdds_235 ?_
      refine r_get d_X10_setOdds_236 s10_lowers rfl rfl ?_
      refine r_iload_2 d_X10_setOdds_239 ?_
      refine r_lald d_X10_setOdds_240 rfl (pm_ixN (by omega) (by omega)) ?_
      rw [show va_up (va_up B 56 ou) 57 ol 53 i = lN (m_l (Hp i) D) from u2]
      refine r_V4v d_X10_setOdds_241 (c_X10_add (w := sp_ww k Hp g0 i v) (D := D) (c := m_u (Hp i) D) (d := m_l (Hp i) D) (e := Hp i) hD hD2 m_l_dvd m_ul (by omega)) rfl rfl rfl ⟨rfl, rfl⟩ (Nat.le_of_ble_eq_true rfl) ?_
      refine r_aload_0 d_X10_setOdds_244 ?_
      refine r_get d_X10_setOdds_245 s10_oddsUp rfl rfl ?_
      refine r_iload_3 d_X10_setOdds_248 ?_
      refine r_aload_0 d_X10_setOdds_249 ?_
      refine r_get d_X10_setOdds_250 s10_sumUp rfl rfl ?_
      refine r_last d_X10_setOdds_253 rfl (pm_ixN (by omega) (by omega)) ?_
      rw [pmM_oddsUp, m_auc _ 56 57 _ _ _ (by decide), show va_up (va_up B 56 ou) 57 ol 56 = ou from rfl]
      refine r_aload_0 d_X10_setOdds_254 ?_
      refine r_get d_X10_setOdds_255 s10_oddsLow rfl rfl ?_
      refine r_iload_3 d_X10_setOdds_258 ?_
      refine r_aload_0 d_X10_setOdds_259 ?_
      refine r_get d_X10_setOdds_260 s10_sumLow rfl rfl ?_
      refine r_last d_X10_setOdds_263 rfl (pm_ixN (by omega) (by omega)) ?_
      rw [pmM_oddsLow, m_au3]
      refine r_iinc_2 d_X10_setOdds_264 (Nat.le_of_ble_eq_true rfl) (fun w hw => by cases hw <;> rfl) ?_
      rw [nI_1]
      refine r_goto d_X10_setOdds_267 ?_
      exact ih (i + 1) _ _ _ _ (by omega) (m_ml_s hm) (by rw [hww]; exact m_US_up1 hV)
theorem m_R_US {k f lo hi : Nat} {t : sp_T3} {u l : Nat → Int64} (h : m_US u l (sp_pp k f lo hi (sp_sh lo hi t.1 61) t.1 (pm_fl 0 t.2.1 61) 61) (t.2.2 * sp_sh lo hi t.1 61) 61) : m_US u l (sp_R k f lo hi t).1 (sp_R k f lo hi t).2.2 61 := fun j hj => by
  have e : (sp_R k f lo hi t).1 j = sp_pp k f lo hi (sp_sh lo hi t.1 61) t.1 (pm_fl 0 t.2.1 61) 61 j := by
    show va_cpy _ _ 0 0 61 j = _
    simp only [va_cpy]
    rw [if_pos (by omega)]
    simp
  rw [e]
  exact h j hj
set_option maxRecDepth 10000 in
set_option maxHeartbeats 4000000 in
theorem c_X10_setOdds1 {h : pm_H} {mi : Nat → Int32} {ml : Nat → Int64} {A : Nat → Nat → Int32} {B : Nat → Nat → Int64} {c kd m k f lo hi : Nat} {w0 Hp Nx : Nat → Nat} (hc : c < 10) (hk : A 46 c = nI kd) (hkd : kd = 1 ∨ kd = 3) (hm : A 47 c = nI m) (hm60 : 4 ≤ m ∧ m ≤ 60) (hs : m_sk A c k f lo hi) : pm_Cl e_X10_setOdds [.ref 44, .int (nI c)] (pmM h mi ml A B) (fun v9 h1 => v9 = none ∧ ∃ mx B1, h1 = pmM h mi mx A B1 ∧ m_ml ml mx ∧ m_US (B1 56) (B1 57) (sp_ww k (sp_S3 k f lo hi m Hp Nx 3).1 (pm_fl 0 w0 31) 61) (sp_S3 k f lo hi m Hp Nx 3).2.2 31) := by
  have hs0 := hs
  obtain ⟨k1, k2, k3, k4, k5, k6, k7, -⟩ := hs
  obtain ⟨-, hS⟩ := sp_S3_ok (m := m) (Hp := Hp) (Nx := Nx) (show pm_ok m k f lo hi from ⟨hm60.1, hm60.2, k1, k2, k3, k4, k5, k6⟩) hm60
  have hR : ∀ r, (sp_S3 k f lo hi m Hp Nx (r + 1)) = sp_R k f lo hi (sp_S3 k f lo hi m Hp Nx r) := fun _ => rfl
  have hz : ∀ r, sp_sum (pm_fl 0 (sp_S3 k f lo hi m Hp Nx r).2.1 61) 61 = 0 := fun r => sp_sum_z (fun j hj => if_pos hj)
  have hbd : ∀ r, r < 3 → (sp_S3 k f lo hi m Hp Nx r).2.2 * sp_sh lo hi (sp_S3 k f lo hi m Hp Nx r).1 61 < 2 ^ 62 := fun r hr => by
    have := (hS (r + 1) (by omega)).2.2
    rw [hR] at this
    exact Nat.lt_trans this (by decide)
  refine pm_enter rfl (Nat.le_of_ble_eq_true rfl) ?_
  show pm_V e_X10_setOdds 0 [some (.ref 44), some (.int (nI c)), none, none] [] (pmM h mi ml A B) (0, 0) _
  refine r_aload_0 d_X10_setOdds_0 ?_
  refine r_V0v d_X10_setOdds_1 c_X10_clearOdds rfl rfl rfl ⟨rfl, rfl⟩ (Nat.le_of_ble_eq_true rfl) ?_
  refine r_aload_0 d_X10_setOdds_4 ?_
  refine r_iload_1 d_X10_setOdds_5 ?_
  refine r_V1 d_X10_setOdds_6 (c_X10_parts hc (kd := kd) hk (by omega)) rfl rfl rfl ⟨rfl, rfl⟩ (Nat.le_of_ble_eq_true rfl) ?_
  rw [show pm_bl (sp_pk kd) = 1 from (by rcases hkd with rfl | rfl <;> rfl)]
  refine r_if_ne d_X10_setOdds_9 (fun c9 => ?_) (fun c9 => absurd c9 (by decide))
  clear c9
  refine r_push (v := nI 0) d_X10_setOdds_139 ?_
  refine r_istore_2 d_X10_setOdds_140 (Nat.le_of_ble_eq_true rfl) (fun w hw => by cases hw <;> rfl) ?_
  have e1 : pmM h mi ml A (va_up (va_up B 56 (pm_fl (lN 0) (B 56) 31)) 57 (pm_fl (lN 1) (B 57) 31)) = pmM h mi ml A (va_up (va_up (va_up (va_up B 56 (pm_fl (lN 0) (B 56) 31)) 57 (pm_fl (lN 1) (B 57) 31)) 52 ((va_up (va_up B 56 (pm_fl (lN 0) (B 56) 31)) 57 (pm_fl (lN 1) (B 57) 31)) 52)) 53 ((va_up (va_up B 56 (pm_fl (lN 0) (B 56) 31)) 57 (pm_fl (lN 1) (B 57) 31)) 53)) := by
    rw [show (va_up (va_up B 56 (pm_fl (lN 0) (B 56) 31)) 57 (pm_fl (lN 1) (B 57) 31)) 53 = va_up (va_up (va_up B 56 (pm_fl (lN 0) (B 56) 31)) 57 (pm_fl (lN 1) (B 57) 31)) 52 ((va_up (va_up B 56 (pm_fl (lN 0) (B 56) 31)) 57 (pm_fl (lN 1) (B 57) 31)) 52) 53 from rfl, m_aus, m_aus]
  rw [e1]
  refine l0_X10_setOdds (B := (va_up (va_up B 56 (pm_fl (lN 0) (B 56) 31)) 57 (pm_fl (lN 1) (B 57) 31))) hc hm (by omega) (fun u l hul => ?_) 61 0 _ _ (by omega) (fun j hj => absurd hj (by omega))
  have hU0 : m_US u l (sp_S3 k f lo hi m Hp Nx 0).1 (sp_S3 k f lo hi m Hp Nx 0).2.2 61 := fun j hj => by
    obtain ⟨a1, a2⟩ := hul j hj
    show u j = lN (m_u (va_up (pm_fl 0 Hp 61) m 1 j) 1) ∧ l j = lN (m_l (va_up (pm_fl 0 Hp 61) m 1 j) 1)
    rw [a1, a2]
    by_cases e : j = m
    · rw [if_pos e, show va_up (pm_fl 0 Hp 61) m 1 j = 1 from if_pos e]; exact ⟨rfl, rfl⟩
    · rw [if_neg e, show va_up (pm_fl 0 Hp 61) m 1 j = 0 from (if_neg e).trans (if_pos hj)]; exact ⟨rfl, rfl⟩
  obtain ⟨B2, hB2⟩ : ∃ B2, va_up (va_up (va_up (va_up B 56 (pm_fl (lN 0) (B 56) 31)) 57 (pm_fl (lN 1) (B 57) 31)) 52 u) 53 l = B2 := ⟨_, rfl⟩
  have hB6 : B2 56 = pm_fl (lN 0) (B 56) 31 := by rw [← hB2]; rfl
  have hB7 : B2 57 = pm_fl (lN 1) (B 57) 31 := by rw [← hB2]; rfl
  have hU0 : m_US (B2 52) (B2 53) (sp_S3 k f lo hi m Hp Nx 0).1 (sp_S3 k f lo hi m Hp Nx 0).2.2 61 := by rw [← hB2]; exact hU0
  rw [hB2]
  refine r_push (v := nI 0) d_X10_setOdds_181 ?_
  refine r_istore_2 d_X10_setOdds_182 (Nat.le_of_ble_eq_true rfl) (fun w hw => by cases hw <;> rfl) ?_
  refine r_iload_2 d_X10_setOdds_183 ?_
  refine r_push (v := nI 3) d_X10_setOdds_184 ?_
  refine r_icmp_ge d_X10_setOdds_185 (fun c185 => absurd c185 (by decide)) (fun c185 => ?_)
  clear c185
  refine r_aload_0 d_X10_setOdds_188 ?_
  refine r_iload_1 d_X10_setOdds_189 ?_
  refine r_V1p d_X10_setOdds_190 (c_X10_partAll (B := B2) (g0 := pm_fl 0 (sp_S3 k f lo hi m Hp Nx 0).2.1 61) hc hs0 hU0 (hS 0 (by decide)).2.1 sp_sh_pos (hbd 0 (by decide)) (hS 0 (by decide)).1 (hz 0) (fun n hn h2 hp => sp_sh_dvd h2 hp hn)) rfl rfl rfl ⟨rfl, rfl⟩ (Nat.le_of_ble_eq_true rfl) ?_
  rintro v9 h9 ⟨rfl, m1x, B3, rfl, hmm1, hU1, hB61, hB71⟩
  have hU1 : m_US (B3 52) (B3 53) (sp_S3 k f lo hi m Hp Nx 1).1 (sp_S3 k f lo hi m Hp Nx 1).2.2 61 := m_R_US hU1
  show pm_V _ _ _ [] _ _ _
  refine r_iinc_2 d_X10_setOdds_193 (Nat.le_of_ble_eq_true rfl) (fun w hw => by cases hw <;> rfl) ?_
  rw [show nI 0 + 1 = nI 1 from rfl]
  refine r_goto d_X10_setOdds_196 ?_
  refine r_iload_2 d_X10_setOdds_183 ?_
  refine r_push (v := nI 3) d_X10_setOdds_184 ?_
  refine r_icmp_ge d_X10_setOdds_185 (fun c185 => absurd c185 (by decide)) (fun c185 => ?_)
  clear c185
  refine r_aload_0 d_X10_setOdds_188 ?_
  refine r_iload_1 d_X10_setOdds_189 ?_
  refine r_V1p d_X10_setOdds_190 (c_X10_partAll (B := B3) (g0 := pm_fl 0 (sp_S3 k f lo hi m Hp Nx 1).2.1 61) hc hs0 hU1 (hS 1 (by decide)).2.1 sp_sh_pos (hbd 1 (by decide)) (hS 1 (by decide)).1 (hz 1) (fun n hn h2 hp => sp_sh_dvd h2 hp hn)) rfl rfl rfl ⟨rfl, rfl⟩ (Nat.le_of_ble_eq_true rfl) ?_
  rintro v9 h9 ⟨rfl, m2x, B4, rfl, hmm2, hU2, hB62, hB72⟩
  have hU2 : m_US (B4 52) (B4 53) (sp_S3 k f lo hi m Hp Nx 2).1 (sp_S3 k f lo hi m Hp Nx 2).2.2 61 := m_R_US hU2
  show pm_V _ _ _ [] _ _ _
  refine r_iinc_2 d_X10_setOdds_193 (Nat.le_of_ble_eq_true rfl) (fun w hw => by cases hw <;> rfl) ?_
  rw [show nI 1 + 1 = nI 2 from rfl]
  refine r_goto d_X10_setOdds_196 ?_
  refine r_iload_2 d_X10_setOdds_183 ?_
  refine r_push (v := nI 3) d_X10_setOdds_184 ?_
  refine r_icmp_ge d_X10_setOdds_185 (fun c185 => absurd c185 (by decide)) (fun c185 => ?_)
  clear c185
  refine r_aload_0 d_X10_setOdds_188 ?_
  refine r_iload_1 d_X10_setOdds_189 ?_
  refine r_V1p d_X10_setOdds_190 (c_X10_partAll (B := B4) (g0 := pm_fl 0 (sp_S3 k f lo hi m Hp Nx 2).2.1 61) hc hs0 hU2 (hS 2 (by decide)).2.1 sp_sh_pos (hbd 2 (by decide)) (hS 2 (by decide)).1 (hz 2) (fun n hn h2 hp => sp_sh_dvd h2 hp hn)) rfl rfl rfl ⟨rfl, rfl⟩ (Nat.le_of_ble_eq_true rfl) ?_
  rintro v9 h9 ⟨rfl, m3x, B5, rfl, hmm3, hU3, hB63, hB73⟩
  have hU3 : m_US (B5 52) (B5 53) (sp_S3 k f lo hi m Hp Nx 3).1 (sp_S3 k f lo hi m Hp Nx 3).2.2 61 := m_R_US hU3
  show pm_V _ _ _ [] _ _ _
  refine r_iinc_2 d_X10_setOdds_193 (Nat.le_of_ble_eq_true rfl) (fun w hw => by cases hw <;> rfl) ?_
  rw [show nI 2 + 1 = nI 3 from rfl]
  refine r_goto d_X10_setOdds_196 ?_
  refine r_iload_2 d_X10_setOdds_183 ?_
  refine r_push (v := nI 3) d_X10_setOdds_184 ?_
  refine r_icmp_ge d_X10_setOdds_185 (fun c185 => ?_) (fun c185 => absurd (by decide) c185)
  clear c185
  refine r_push (v := nI 0) d_X10_setOdds_199 ?_
  refine r_istore_2 d_X10_setOdds_200 (Nat.le_of_ble_eq_true rfl) (fun w hw => by cases hw <;> rfl) ?_
  rw [hB62, hB61, hB6] at hB63
  rw [hB72, hB71, hB7] at hB73
  have e2 : pmM h mi m3x A B5 = pmM h mi m3x A (va_up (va_up B5 56 (B5 56)) 57 (B5 57)) := by
    rw [show B5 57 = va_up B5 56 (B5 56) 57 from rfl, m_aus, m_aus]
  rw [e2]
  refine l1_X10_setOdds (ml := m3x) (g0 := pm_fl 0 w0 31) hc ⟨k1, k2⟩ k7 hU3 (hS 3 (by decide)).2.1 (Nat.lt_trans (hS 3 (by decide)).2.2 (by decide)) (hS 3 (by decide)).1 (sp_sum_z (fun j hj => if_pos hj)) (fun mx ou ol o3 hm9 hV => ?_) 61 0 _ _ _ _ (by omega) (fun q _ _ => rfl) (fun j hj => ?_)
  · refine r_return d_X10_setOdds_270 rfl ?_
    exact ⟨rfl, mx, _, rfl, fun q h3 h4 => (hm9 q h3 h4).trans ((hmm3 q h3 h4).trans ((hmm2 q h3 h4).trans (hmm1 q h3 h4))), hV⟩
  · rw [hB63, hB73, show sp_ww k (sp_S3 k f lo hi m Hp Nx 3).1 (pm_fl 0 w0 31) 0 j = 0 from if_pos hj]
    obtain ⟨z1, z2⟩ := m_us1 (hS 3 (by decide)).2.1
    exact ⟨(if_pos hj).trans z1, (if_pos hj).trans z2⟩
