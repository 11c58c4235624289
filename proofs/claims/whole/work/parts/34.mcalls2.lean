theorem sp_in_0 {v : Int32} {hi : Nat} (hhi : hi < 2 ^ 31) (h : sp_in v 0 (nI hi) = true) : ∃ y, y ≤ hi ∧ v = nI y := by
  obtain ⟨y, -, h2, h3⟩ := sp_in_nat (v := v) (lo := 0) (hi := hi) (by decide) hhi h
  exact ⟨y, h2, h3⟩
theorem sp_pk_t {kd : Nat} (h : sp_pk kd = true) : kd = 1 ∨ kd = 3 := by
  unfold sp_pk at h
  simpa using h
theorem sp_pk_f {kd : Nat} (h : sp_pk kd = false) : ¬ (kd = 1 ∨ kd = 3) := by
  unfold sp_pk at h
  simp at h
  omega
theorem m_Cs_k {A : Nat → Nat → Int32} {c : Nat} {q : sp_Cs} (hs : m_Cs A c q) : A 46 c = nI q.1 ∧ q.1 ≤ 3 := by
  obtain ⟨hk, hq⟩ := hs
  refine ⟨hk, ?_⟩
  rcases hq with ⟨h1, -⟩ | ⟨h1, -⟩ <;> omega
theorem m_Cs_s {A : Nat → Nat → Int32} {c : Nat} {q : sp_Cs} (hs : m_Cs A c q) (hp : q.1 = 1 ∨ q.1 = 3) : 4 ≤ q.2.1 ∧ q.2.1 ≤ 60 ∧ A 47 c = nI q.2.1 ∧ m_sk A c q.2.2.1 q.2.2.2.1 q.2.2.2.2.1 q.2.2.2.2.2 := by
  obtain ⟨hk, hq⟩ := hs
  rcases hq with ⟨h1, -⟩ | ⟨h1, h2, h3, h4, h5, -⟩
  · omega
  · exact ⟨h2, h3, h4, h5⟩
set_option maxRecDepth 10000 in
set_option maxHeartbeats 4000000 in
theorem c_X10_mark {h : pm_H} {mi : Nat → Int32} {ml : Nat → Int64} {A : Nat → Nat → Int32} {B : Nat → Nat → Int64} {c : Int32} {cn : Nat} {C : Nat → sp_Cs} (hCC : m_CC mi A cn C) {w : Int32} : pm_Cv e_X10_mark [.ref 44, .int c, .int w] (pmM h mi ml A B) (.int (sp_ans (sp_mark ((pm_ci c cn).map C) w))) (m_fin h mi ml A B (sp_mark ((pm_ci c cn).map C) w)) := by
  obtain ⟨hcn, hn10, hC⟩ := hCC
  have hb := pm_bl_le (sp_in w 1 3)
  cases hci : pm_ci c cn with
  | none =>
    refine pm_enter rfl (Nat.le_of_ble_eq_true rfl) ?_
    show pm_V e_X10_mark 0 [some (.ref 44), some (.int c), some (.int w)] [] (pmM h mi ml A B) (0, 0) _
    refine r_aload_0 d_X10_mark_0 ?_
    refine r_iload_1 d_X10_mark_1 ?_
    refine r_V1 d_X10_mark_2 (c_X10_isCaster hcn hn10) rfl rfl rfl ⟨rfl, rfl⟩ (Nat.le_of_ble_eq_true rfl) ?_
    rw [hci]
    show pm_V _ _ _ (.int (nI 0) :: _) _ _ _
    refine r_if_eq d_X10_mark_5 (fun c5 => ?_) (fun c5 => absurd (by decide) c5)
    clear c5
    refine r_push d_X10_mark_17 ?_
    refine r_ireturn d_X10_mark_18 ⟨_, rfl, rfl⟩ ?_
    exact ⟨rfl, rfl⟩
  | some j =>
    obtain ⟨hj, rfl⟩ := pm_ci_some (by omega) hci
    have hc : j < 10 := by omega
    have hs := hC j hj
    obtain ⟨hk, hkd⟩ := m_Cs_k hs
    have hss := m_Cs_s hs
    rw [show Option.map C (some j) = some (C j) from rfl]
    generalize hq9 : C j = q at hs hk hkd hss ⊢
    obtain ⟨kd, n, k, f, lo, hi⟩ := q
    dsimp only at hk hkd hss
    refine pm_enter rfl (Nat.le_of_ble_eq_true rfl) ?_
    show pm_V e_X10_mark 0 [some (.ref 44), some (.int (nI j)), some (.int w)] [] (pmM h mi ml A B) (0, 0) _
    refine r_aload_0 d_X10_mark_0 ?_
    refine r_iload_1 d_X10_mark_1 ?_
    refine r_V1 d_X10_mark_2 (c_X10_isCaster hcn hn10) rfl rfl rfl ⟨rfl, rfl⟩ (Nat.le_of_ble_eq_true rfl) ?_
    rw [hci]
    show pm_V _ _ _ (.int (nI 1) :: _) _ _ _
    refine r_if_eq d_X10_mark_5 (fun c5 => absurd c5 (by decide)) (fun c5 => ?_)
    clear c5
    refine r_iload_2 d_X10_mark_8 ?_
    refine r_push d_X10_mark_9 ?_
    refine r_push d_X10_mark_10 ?_
    refine r_S3 d_X10_mark_11 c_X10_in ⟨rfl, rfl⟩ (Nat.le_of_ble_eq_true rfl) ?_
    refine r_if_ne d_X10_mark_14 (fun c14 => ?_) (fun c14 => ?_)
    · -- taken at 14
      have c14 : ¬ (pm_bl (sp_in w 1 3)) = 0 := fun zz9 => c14 ((nI_eq (a := (pm_bl (sp_in w 1 3))) (b := 0) (by omega) (by omega)).mpr zz9)
      have hin := pm_bl1 c14
      obtain ⟨y, hy1, hy3, rfl⟩ := sp_in_nat (lo := 1) (hi := 3) (by decide) (by decide) hin
      have hr : sp_mark (some (kd, n, k, f, lo, hi)) (nI y) = if nI kd = nI y ∨ (nI y = 1 ∧ kd = 3) then .inl (if nI y = 1 then nI (sp_left k f n 1) else if nI y = 2 then 4 else nI (sp_places lo hi n)) else .inr 3 := by unfold sp_mark; dsimp only; rw [if_pos hin]
      rw [hr]
      clear hr
      have e1 : (nI y = 1) ↔ y = 1 := nI_eq (a := y) (b := 1) (by omega) (by decide)
      have e2 : (nI y = 2) ↔ y = 2 := nI_eq (a := y) (b := 2) (by omega) (by decide)
      have e3 : (nI kd = nI y) ↔ kd = y := nI_eq (by omega) (by omega)
      simp only [e1, e2, e3]
      refine r_aload_0 d_X10_mark_19 ?_
      refine r_get d_X10_mark_20 s10_kinds rfl rfl ?_
      refine r_iload_1 d_X10_mark_23 ?_
      refine r_iald d_X10_mark_24 rfl (pm_ixN hc (by decide)) ?_
      rw [hk]
      refine r_iload_2 d_X10_mark_25 ?_
      refine r_icmp_eq d_X10_mark_26 (fun c26 => ?_) (fun c26 => ?_)
      · -- taken at 26
        have c26 : kd = y := (nI_eq (a := kd) (b := y) (by omega) (by omega)).mp c26
        refine r_iload_2 d_X10_mark_50 ?_
        refine r_push (v := nI 1) d_X10_mark_51 ?_
        refine r_icmp_ne d_X10_mark_52 (fun c52 => ?_) (fun c52 => ?_)
        · -- taken at 52
          have c52 : ¬ y = 1 := fun zz9 => c52 ((nI_eq (a := y) (b := 1) (by omega) (by omega)).mpr zz9)
          refine r_iload_2 d_X10_mark_70 ?_
          refine r_push (v := nI 2) d_X10_mark_71 ?_
          refine r_icmp_ne d_X10_mark_72 (fun c72 => ?_) (fun c72 => ?_)
          · -- taken at 72
            have c72 : ¬ y = 2 := fun zz9 => c72 ((nI_eq (a := y) (b := 2) (by omega) (by omega)).mpr zz9)
            rw [if_pos (by omega), if_neg (by omega), if_neg (by omega)]
            obtain ⟨hn4, hn60, hs47, hsk⟩ := hss (by omega)
            refine r_aload_0 d_X10_mark_79 ?_
            refine r_iload_1 d_X10_mark_80 ?_
            refine r_aload_0 d_X10_mark_81 ?_
            refine r_get d_X10_mark_82 s10_sticks rfl rfl ?_
            refine r_iload_1 d_X10_mark_85 ?_
            refine r_iald d_X10_mark_86 rfl (pm_ixN hc (by decide)) ?_
            rw [hs47]
            refine r_V2 d_X10_mark_87 (c_X10_places hc hsk ⟨by omega, by omega⟩) rfl rfl rfl ⟨rfl, rfl⟩ (Nat.le_of_ble_eq_true rfl) ?_
            refine r_ireturn d_X10_mark_90 ⟨_, rfl, rfl⟩ ?_
            exact ⟨rfl, rfl⟩
          · -- not taken at 72
            have c72 : y = 2 := (nI_eq (a := y) (b := 2) (by omega) (by omega)).mp c72
            rw [if_pos (by omega), if_neg (by omega), if_pos (by omega)]
            refine r_push (v := nI 4) d_X10_mark_75 ?_
            refine r_goto d_X10_mark_76 ?_
            refine r_ireturn d_X10_mark_90 ⟨_, rfl, rfl⟩ ?_
            exact ⟨rfl, rfl⟩
        · -- not taken at 52
          have c52 : y = 1 := (nI_eq (a := y) (b := 1) (by omega) (by omega)).mp c52
          rw [if_pos (by omega), if_pos (by omega)]
          obtain ⟨hn4, hn60, hs47, hsk⟩ := hss (by omega)
          refine r_aload_0 d_X10_mark_55 ?_
          refine r_iload_1 d_X10_mark_56 ?_
          refine r_aload_0 d_X10_mark_57 ?_
          refine r_get d_X10_mark_58 s10_sticks rfl rfl ?_
          refine r_iload_1 d_X10_mark_61 ?_
          refine r_iald d_X10_mark_62 rfl (pm_ixN hc (by decide)) ?_
          rw [hs47]
          refine r_push (v := nI 1) d_X10_mark_63 ?_
          refine r_V3 d_X10_mark_64 (c_X10_left hc hsk (by omega) ⟨by omega, by omega⟩) rfl rfl rfl ⟨rfl, rfl⟩ (Nat.le_of_ble_eq_true rfl) ?_
          refine r_goto d_X10_mark_67 ?_
          refine r_ireturn d_X10_mark_90 ⟨_, rfl, rfl⟩ ?_
          exact ⟨rfl, rfl⟩
      · -- not taken at 26
        have c26 : ¬ kd = y := fun zz9 => c26 ((nI_eq (a := kd) (b := y) (by omega) (by omega)).mpr zz9)
        refine r_iload_2 d_X10_mark_29 ?_
        refine r_push (v := nI 1) d_X10_mark_30 ?_
        refine r_icmp_ne d_X10_mark_31 (fun c31 => ?_) (fun c31 => ?_)
        · -- taken at 31
          have c31 : ¬ y = 1 := fun zz9 => c31 ((nI_eq (a := y) (b := 1) (by omega) (by omega)).mpr zz9)
          refine r_aload_0 d_X10_mark_44 ?_
          refine r_push (v := nI 3) d_X10_mark_45 ?_
          refine r_V1 d_X10_mark_46 (c_X10_meets (w := 3) (by decide)) rfl rfl rfl ⟨rfl, rfl⟩ (Nat.le_of_ble_eq_true rfl) ?_
          refine r_ireturn d_X10_mark_49 ⟨_, rfl, rfl⟩ ?_
          rw [if_neg (by omega)]
          exact ⟨rfl, rfl⟩
        · -- not taken at 31
          have c31 : y = 1 := (nI_eq (a := y) (b := 1) (by omega) (by omega)).mp c31
          refine r_aload_0 d_X10_mark_34 ?_
          refine r_get d_X10_mark_35 s10_kinds rfl rfl ?_
          refine r_iload_1 d_X10_mark_38 ?_
          refine r_iald d_X10_mark_39 rfl (pm_ixN hc (by decide)) ?_
          rw [hk]
          refine r_push (v := nI 3) d_X10_mark_40 ?_
          refine r_icmp_eq d_X10_mark_41 (fun c41 => ?_) (fun c41 => ?_)
          · -- taken at 41
            have c41 : kd = 3 := (nI_eq (a := kd) (b := 3) (by omega) (by omega)).mp c41
            refine r_iload_2 d_X10_mark_50 ?_
            refine r_push (v := nI 1) d_X10_mark_51 ?_
            refine r_icmp_ne d_X10_mark_52 (fun c52 => ?_) (fun c52 => ?_)
            · -- taken at 52
              have c52 : ¬ y = 1 := fun zz9 => c52 ((nI_eq (a := y) (b := 1) (by omega) (by omega)).mpr zz9)
              refine r_iload_2 d_X10_mark_70 ?_
              refine r_push (v := nI 2) d_X10_mark_71 ?_
              refine r_icmp_ne d_X10_mark_72 (fun c72 => ?_) (fun c72 => ?_)
              · -- taken at 72
                have c72 : ¬ y = 2 := fun zz9 => c72 ((nI_eq (a := y) (b := 2) (by omega) (by omega)).mpr zz9)
                rw [if_pos (by omega), if_neg (by omega), if_neg (by omega)]
                obtain ⟨hn4, hn60, hs47, hsk⟩ := hss (by omega)
                refine r_aload_0 d_X10_mark_79 ?_
                refine r_iload_1 d_X10_mark_80 ?_
                refine r_aload_0 d_X10_mark_81 ?_
                refine r_get d_X10_mark_82 s10_sticks rfl rfl ?_
                refine r_iload_1 d_X10_mark_85 ?_
                refine r_iald d_X10_mark_86 rfl (pm_ixN hc (by decide)) ?_
                rw [hs47]
                refine r_V2 d_X10_mark_87 (c_X10_places hc hsk ⟨by omega, by omega⟩) rfl rfl rfl ⟨rfl, rfl⟩ (Nat.le_of_ble_eq_true rfl) ?_
                refine r_ireturn d_X10_mark_90 ⟨_, rfl, rfl⟩ ?_
                exact ⟨rfl, rfl⟩
              · -- not taken at 72
                have c72 : y = 2 := (nI_eq (a := y) (b := 2) (by omega) (by omega)).mp c72
                rw [if_pos (by omega), if_neg (by omega), if_pos (by omega)]
                refine r_push (v := nI 4) d_X10_mark_75 ?_
                refine r_goto d_X10_mark_76 ?_
                refine r_ireturn d_X10_mark_90 ⟨_, rfl, rfl⟩ ?_
                exact ⟨rfl, rfl⟩
            · -- not taken at 52
              have c52 : y = 1 := (nI_eq (a := y) (b := 1) (by omega) (by omega)).mp c52
              rw [if_pos (by omega), if_pos (by omega)]
              obtain ⟨hn4, hn60, hs47, hsk⟩ := hss (by omega)
              refine r_aload_0 d_X10_mark_55 ?_
              refine r_iload_1 d_X10_mark_56 ?_
              refine r_aload_0 d_X10_mark_57 ?_
              refine r_get d_X10_mark_58 s10_sticks rfl rfl ?_
              refine r_iload_1 d_X10_mark_61 ?_
              refine r_iald d_X10_mark_62 rfl (pm_ixN hc (by decide)) ?_
              rw [hs47]
              refine r_push (v := nI 1) d_X10_mark_63 ?_
              refine r_V3 d_X10_mark_64 (c_X10_left hc hsk (by omega) ⟨by omega, by omega⟩) rfl rfl rfl ⟨rfl, rfl⟩ (Nat.le_of_ble_eq_true rfl) ?_
              refine r_goto d_X10_mark_67 ?_
              refine r_ireturn d_X10_mark_90 ⟨_, rfl, rfl⟩ ?_
              exact ⟨rfl, rfl⟩
          · -- not taken at 41
            have c41 : ¬ kd = 3 := fun zz9 => c41 ((nI_eq (a := kd) (b := 3) (by omega) (by omega)).mpr zz9)
            refine r_aload_0 d_X10_mark_44 ?_
            refine r_push (v := nI 3) d_X10_mark_45 ?_
            refine r_V1 d_X10_mark_46 (c_X10_meets (w := 3) (by decide)) rfl rfl rfl ⟨rfl, rfl⟩ (Nat.le_of_ble_eq_true rfl) ?_
            refine r_ireturn d_X10_mark_49 ⟨_, rfl, rfl⟩ ?_
            rw [if_neg (by omega)]
            exact ⟨rfl, rfl⟩
    · -- not taken at 14
      have c14 : (pm_bl (sp_in w 1 3)) = 0 := (nI_eq (a := (pm_bl (sp_in w 1 3))) (b := 0) (by omega) (by omega)).mp c14
      rw [show sp_mark (some (kd, n, k, f, lo, hi)) w = .inl (-1) by unfold sp_mark; dsimp only; rw [if_neg (by rw [pm_bl0.mp c14]; decide)]]
      refine r_push d_X10_mark_17 ?_
      refine r_ireturn d_X10_mark_18 ⟨_, rfl, rfl⟩ ?_
      exact ⟨rfl, rfl⟩
set_option maxRecDepth 10000 in
set_option maxHeartbeats 4000000 in
theorem c_X10_part {h : pm_H} {mi : Nat → Int32} {ml : Nat → Int64} {A : Nat → Nat → Int32} {B : Nat → Nat → Int64} {c : Int32} {cn : Nat} {C : Nat → sp_Cs} (hCC : m_CC mi A cn C) {x a : Int32} : pm_Cv e_X10_part [.ref 44, .int c, .int x, .int a] (pmM h mi ml A B) (.int (sp_ans (sp_part ((pm_ci c cn).map C) x a))) (m_fin h mi ml A B (sp_part ((pm_ci c cn).map C) x a)) := by
  obtain ⟨hcn, hn10, hC⟩ := hCC
  have hb := pm_bl_le (sp_in x 0 60)
  cases hci : pm_ci c cn with
  | none =>
    refine pm_enter rfl (Nat.le_of_ble_eq_true rfl) ?_
    show pm_V e_X10_part 0 [some (.ref 44), some (.int c), some (.int x), some (.int a)] [] (pmM h mi ml A B) (0, 0) _
    refine r_aload_0 d_X10_part_0 ?_
    refine r_iload_1 d_X10_part_1 ?_
    refine r_V1 d_X10_part_2 (c_X10_isCaster hcn hn10) rfl rfl rfl ⟨rfl, rfl⟩ (Nat.le_of_ble_eq_true rfl) ?_
    rw [hci]
    show pm_V _ _ _ (.int (nI 0) :: _) _ _ _
    refine r_if_eq d_X10_part_5 (fun c5 => ?_) (fun c5 => absurd (by decide) c5)
    clear c5
    refine r_push d_X10_part_18 ?_
    refine r_ireturn d_X10_part_19 ⟨_, rfl, rfl⟩ ?_
    exact ⟨rfl, rfl⟩
  | some j =>
    obtain ⟨hj, rfl⟩ := pm_ci_some (by omega) hci
    have hc : j < 10 := by omega
    have hs := hC j hj
    obtain ⟨hk, hkd⟩ := m_Cs_k hs
    have hss := m_Cs_s hs
    rw [show Option.map C (some j) = some (C j) from rfl]
    generalize hq9 : C j = q at hs hk hkd hss ⊢
    obtain ⟨kd, n, k, f, lo, hi⟩ := q
    dsimp only at hk hkd hss
    have hbk := pm_bl_le (sp_pk kd)
    refine pm_enter rfl (Nat.le_of_ble_eq_true rfl) ?_
    show pm_V e_X10_part 0 [some (.ref 44), some (.int (nI j)), some (.int x), some (.int a)] [] (pmM h mi ml A B) (0, 0) _
    refine r_aload_0 d_X10_part_0 ?_
    refine r_iload_1 d_X10_part_1 ?_
    refine r_V1 d_X10_part_2 (c_X10_isCaster hcn hn10) rfl rfl rfl ⟨rfl, rfl⟩ (Nat.le_of_ble_eq_true rfl) ?_
    rw [hci]
    show pm_V _ _ _ (.int (nI 1) :: _) _ _ _
    refine r_if_eq d_X10_part_5 (fun c5 => absurd c5 (by decide)) (fun c5 => ?_)
    clear c5
    refine r_iload_2 d_X10_part_8 ?_
    refine r_push d_X10_part_9 ?_
    refine r_push d_X10_part_10 ?_
    refine r_S3 d_X10_part_12 c_X10_in ⟨rfl, rfl⟩ (Nat.le_of_ble_eq_true rfl) ?_
    refine r_if_ne d_X10_part_15 (fun c15 => ?_) (fun c15 => ?_)
    · -- taken at 15
      have c15 : ¬ (pm_bl (sp_in x 0 60)) = 0 := fun zz9 => c15 ((nI_eq (a := (pm_bl (sp_in x 0 60))) (b := 0) (by omega) (by omega)).mpr zz9)
      have hin := pm_bl1 c15
      obtain ⟨y, hy60, rfl⟩ := sp_in_0 (hi := 60) (by decide) hin
      have hr : sp_part (some (kd, n, k, f, lo, hi)) (nI y) a = if sp_pk kd then (if nI y < 2 then .inl (nI y) else if sp_in a 1 (nI y - 1) then .inl (nI (sp_left k f y a.toNatClampNeg)) else .inr 2) else .inr 3 := by unfold sp_part; dsimp only; rw [if_pos hin, nI_clamp (by omega)]
      rw [hr]
      clear hr
      have e1 : (nI y < 2) ↔ y < 2 := nI_ltI (a := y) (b := 2) (by omega) (by decide)
      simp only [e1]
      refine r_aload_0 d_X10_part_20 ?_
      refine r_iload_1 d_X10_part_21 ?_
      refine r_V1 d_X10_part_22 (c_X10_parts hc hk hkd) rfl rfl rfl ⟨rfl, rfl⟩ (Nat.le_of_ble_eq_true rfl) ?_
      refine r_if_ne d_X10_part_25 (fun c25 => ?_) (fun c25 => ?_)
      · -- taken at 25
        have c25 : ¬ (pm_bl (sp_pk kd)) = 0 := fun zz9 => c25 ((nI_eq (a := (pm_bl (sp_pk kd))) (b := 0) (by omega) (by omega)).mpr zz9)
        rw [if_pos (pm_bl1 c25)]
        obtain ⟨hn4, hn60, hs47, hsk⟩ := hss (sp_pk_t (pm_bl1 c25))
        refine r_iload_2 d_X10_part_34 ?_
        refine r_push (v := nI 2) d_X10_part_35 ?_
        refine r_icmp_ge d_X10_part_36 (fun c36 => ?_) (fun c36 => ?_)
        · -- taken at 36
          have c36 : 2 ≤ y := (nI_leI (a := 2) (b := y) (by omega) (by omega)).mp c36
          rw [if_neg (by omega), show nI y - 1 = nI (y - 1) from pk_sub (a := y) (b := 1) (by omega)]
          have hba := pm_bl_le (sp_in a 1 (nI (y - 1)))
          refine r_iload_3 d_X10_part_43 ?_
          refine r_push (v := nI 1) d_X10_part_44 ?_
          refine r_iload_2 d_X10_part_45 ?_
          refine r_push (v := nI 1) d_X10_part_46 ?_
          refine r_isub d_X10_part_47 ?_
          rw [pk_sub (a := y) (b := 1) (by omega)]
          refine r_S3 d_X10_part_48 c_X10_in ⟨rfl, rfl⟩ (Nat.le_of_ble_eq_true rfl) ?_
          refine r_if_eq d_X10_part_51 (fun c51 => ?_) (fun c51 => ?_)
          · -- taken at 51
            have c51 : (pm_bl (sp_in a 1 (nI (y - 1)))) = 0 := (nI_eq (a := (pm_bl (sp_in a 1 (nI (y - 1))))) (b := 0) (by omega) (by omega)).mp c51
            rw [if_neg (by rw [pm_bl0.mp c51]; decide)]
            refine r_aload_0 d_X10_part_64 ?_
            refine r_push (v := nI 2) d_X10_part_65 ?_
            refine r_V1 d_X10_part_66 (c_X10_meets (w := 2) (by decide)) rfl rfl rfl ⟨rfl, rfl⟩ (Nat.le_of_ble_eq_true rfl) ?_
            refine r_ireturn d_X10_part_69 ⟨_, rfl, rfl⟩ ?_
            exact ⟨rfl, rfl⟩
          · -- not taken at 51
            have c51 : ¬ (pm_bl (sp_in a 1 (nI (y - 1)))) = 0 := fun zz9 => c51 ((nI_eq (a := (pm_bl (sp_in a 1 (nI (y - 1))))) (b := 0) (by omega) (by omega)).mpr zz9)
            have hia := pm_bl1 c51
            rw [if_pos hia]
            obtain ⟨u, hu1, hu2, rfl⟩ := sp_in_nat (lo := 1) (hi := y - 1) (by decide) (by omega) hia
            rw [nI_clamp (by omega)]
            refine r_aload_0 d_X10_part_54 ?_
            refine r_iload_1 d_X10_part_55 ?_
            refine r_iload_2 d_X10_part_56 ?_
            refine r_iload_3 d_X10_part_57 ?_
            refine r_V3 d_X10_part_58 (c_X10_left hc hsk hy60 ⟨by omega, by omega⟩) rfl rfl rfl ⟨rfl, rfl⟩ (Nat.le_of_ble_eq_true rfl) ?_
            refine r_goto d_X10_part_61 ?_
            refine r_ireturn d_X10_part_69 ⟨_, rfl, rfl⟩ ?_
            exact ⟨rfl, rfl⟩
        · -- not taken at 36
          have c36 : ¬ 2 ≤ y := fun zz9 => c36 ((nI_leI (a := 2) (b := y) (by omega) (by omega)).mpr zz9)
          rw [if_pos (by omega)]
          refine r_iload_2 d_X10_part_39 ?_
          refine r_goto d_X10_part_40 ?_
          refine r_ireturn d_X10_part_69 ⟨_, rfl, rfl⟩ ?_
          exact ⟨rfl, rfl⟩
      · -- not taken at 25
        have c25 : (pm_bl (sp_pk kd)) = 0 := (nI_eq (a := (pm_bl (sp_pk kd))) (b := 0) (by omega) (by omega)).mp c25
        rw [if_neg (by rw [pm_bl0.mp c25]; decide)]
        refine r_aload_0 d_X10_part_28 ?_
        refine r_push (v := nI 3) d_X10_part_29 ?_
        refine r_V1 d_X10_part_30 (c_X10_meets (w := 3) (by decide)) rfl rfl rfl ⟨rfl, rfl⟩ (Nat.le_of_ble_eq_true rfl) ?_
        refine r_ireturn d_X10_part_33 ⟨_, rfl, rfl⟩ ?_
        exact ⟨rfl, rfl⟩
    · -- not taken at 15
      have c15 : (pm_bl (sp_in x 0 60)) = 0 := (nI_eq (a := (pm_bl (sp_in x 0 60))) (b := 0) (by omega) (by omega)).mp c15
      rw [show sp_part (some (kd, n, k, f, lo, hi)) x a = .inl (-1) by unfold sp_part; dsimp only; rw [if_neg (by rw [pm_bl0.mp c15]; decide)]]
      refine r_push d_X10_part_18 ?_
      refine r_ireturn d_X10_part_19 ⟨_, rfl, rfl⟩ ?_
      exact ⟨rfl, rfl⟩
