set_option maxRecDepth 10000 in
set_option maxHeartbeats 4000000 in
theorem c_X9_part {h : pm_H} {xi : Nat → Int32} {xl : Nat → Int64} {xc : Nat → Option Nat} {XA : Nat → Nat → Int32} {XB : Nat → Nat → Int64} {c : Int32} {cn : Nat} {C : Nat → sp_Cs} (hCC : x_CC h xi xc cn C) {x a : Int32} : pm_Cv e_X9_part [.ref 1, .int c, .int x, .int a] (pmX h xi xl xc XA XB) (.int (sp_ans (sp_part ((pm_ci c cn).map C) x a))) (x_fin h xi xl xc XA XB (sp_part ((pm_ci c cn).map C) x a)) := by
  cases hci : pm_ci c cn with
  | none =>
    change pm_Cv _ _ _ (.int (-1)) (pmX h xi xl xc XA XB)
    refine pm_enter rfl (Nat.le_of_ble_eq_true rfl) ?_
    show pm_V e_X9_part 0 [some (.ref 1), some (.int c), some (.int x), some (.int a), none, none, none] [] (pmX h xi xl xc XA XB) (0, 0) _
    refine r_aload_0 d_X9_part_0 ?_
    refine r_iload_1 d_X9_part_1 ?_
    refine r_V1 d_X9_part_2 (c_X9_casterAt_no hCC.1 hci) rfl rfl rfl ⟨rfl, rfl⟩ (Nat.le_of_ble_eq_true rfl) ?_
    refine r_astoreN_4 d_X9_part_5 (Nat.le_of_ble_eq_true rfl) (fun w hw => by cases hw <;> rfl) ?_
    refine r_aloadN_4 d_X9_part_7 ?_
    refine r_ifnullN d_X9_part_9 ?_
    refine r_push d_X9_part_22 ?_
    refine r_ireturn d_X9_part_23 ⟨_, rfl, rfl⟩ ?_
    exact ⟨rfl, rfl⟩
  | some j =>
    obtain ⟨hj, rfl⟩ := pm_ci_some (Nat.lt_of_le_of_lt hCC.2.1 (by decide)) hci
    have hA : pm_Cv e_X9_casterAt [.ref 1, .int (nI j)] (pmX h xi xl xc XA XB) (.ref (68 + j)) (pmX h xi xl xc XA XB) := c_X9_casterAt hCC hj
    have hcs := (hCC.2.2 j hj).2
    change pm_Cv _ _ _ (.int (sp_ans (sp_part (some (C j)) x a))) (x_fin h xi xl xc XA XB (sp_part (some (C j)) x a))
    generalize C j = q9 at hcs ⊢
    obtain ⟨kd, n, k, f, lo, hi⟩ := q9
    by_cases hx : sp_in x 0 60 = true
    · obtain ⟨y, hy, rfl⟩ := sp_in_0 (hi := 60) (by decide) hx
      have hsp : ∀ kd, sp_part (some (kd, n, k, f, lo, hi)) (nI y) a = if sp_pk kd then (if nI y < 2 then .inl (nI y) else if sp_in a 1 (nI y - 1) then .inl (nI (sp_left k f (nI y).toNatClampNeg a.toNatClampNeg)) else .inr 2) else .inr 3 := fun kd => if_pos hx
      change pm_cs h (68 + j) kd n k f lo hi at hcs
      rcases hcs with ⟨e, hcell⟩ | ⟨e, hcell⟩ | ⟨e, e1, e2, ok, hcell⟩ | ⟨e, ok, hcell⟩
      ·
        subst e
        have hcell := (pmX_ne (h := h) (xi := xi) (xl := xl) (xc := xc) (XA := XA) (XB := XB) (a := 68 + j) (by omega)).trans hcell
        rw [hsp 0]
        change pm_Cv _ _ _ (.int (-3)) (x_meet h xi xl xc XA XB 3)
        refine pm_enter rfl (Nat.le_of_ble_eq_true rfl) ?_
        show pm_V e_X9_part 0 [some (.ref 1), some (.int (nI j)), some (.int (nI y)), some (.int a), none, none, none] [] (pmX h xi xl xc XA XB) (0, 0) _
        refine r_aload_0 d_X9_part_0 ?_
        refine r_iload_1 d_X9_part_1 ?_
        refine r_V1 d_X9_part_2 hA rfl rfl rfl ⟨rfl, rfl⟩ (Nat.le_of_ble_eq_true rfl) ?_
        refine r_astore_4 d_X9_part_5 (Nat.le_of_ble_eq_true rfl) (fun w hw => by cases hw <;> rfl) ?_
        refine r_aload_4 d_X9_part_7 ?_
        refine r_ifnull d_X9_part_9 ?_
        refine r_iload_2 d_X9_part_12 ?_
        refine r_if_lt d_X9_part_13 (fun c13 => ?_) (fun c13 => ?_)
        · -- taken at 13
          have c13 : y < 0 := (nI_ltI (a := y) (b := 0) (by omega) (by omega)).mp c13
          exfalso; omega
        · -- not taken at 13
          have c13 : ¬ y < 0 := fun zz9 => c13 ((nI_ltI (a := y) (b := 0) (by omega) (by omega)).mpr zz9)
          refine r_iload_2 d_X9_part_16 ?_
          refine r_push (v := nI 60) d_X9_part_17 ?_
          refine r_icmp_le d_X9_part_19 (fun c19 => ?_) (fun c19 => ?_)
          · -- taken at 19
            have c19 : y ≤ 60 := (nI_leI (a := y) (b := 60) (by omega) (by omega)).mp c19
            refine r_aload_4 d_X9_part_24 ?_
            refine r_S1 d_X9_part_26 (c_X9_asStalks1 (fs := []) hcell) ⟨rfl, rfl⟩ (Nat.le_of_ble_eq_true rfl) ?_
            refine r_astoreN_5 d_X9_part_29 (Nat.le_of_ble_eq_true rfl) (fun w hw => by cases hw <;> rfl) ?_
            refine r_aloadN_5 d_X9_part_31 ?_
            refine r_ifnonnullN d_X9_part_33 ?_
            refine r_aload_0 d_X9_part_36 ?_
            refine r_push (v := nI 3) d_X9_part_37 ?_
            refine r_V1 d_X9_part_38 (c_X9_found (w := 3) (by decide)) rfl rfl rfl ⟨rfl, rfl⟩ (Nat.le_of_ble_eq_true rfl) ?_
            refine r_ireturn d_X9_part_41 ⟨_, rfl, rfl⟩ ?_
            exact ⟨rfl, rfl⟩
          · -- not taken at 19
            have c19 : ¬ y ≤ 60 := fun zz9 => c19 ((nI_leI (a := y) (b := 60) (by omega) (by omega)).mpr zz9)
            exfalso; omega
      ·
        subst e
        have hcell := (pmX_ne (h := h) (xi := xi) (xl := xl) (xc := xc) (XA := XA) (XB := XB) (a := 68 + j) (by omega)).trans hcell
        rw [hsp 2]
        change pm_Cv _ _ _ (.int (-3)) (x_meet h xi xl xc XA XB 3)
        refine pm_enter rfl (Nat.le_of_ble_eq_true rfl) ?_
        show pm_V e_X9_part 0 [some (.ref 1), some (.int (nI j)), some (.int (nI y)), some (.int a), none, none, none] [] (pmX h xi xl xc XA XB) (0, 0) _
        refine r_aload_0 d_X9_part_0 ?_
        refine r_iload_1 d_X9_part_1 ?_
        refine r_V1 d_X9_part_2 hA rfl rfl rfl ⟨rfl, rfl⟩ (Nat.le_of_ble_eq_true rfl) ?_
        refine r_astore_4 d_X9_part_5 (Nat.le_of_ble_eq_true rfl) (fun w hw => by cases hw <;> rfl) ?_
        refine r_aload_4 d_X9_part_7 ?_
        refine r_ifnull d_X9_part_9 ?_
        refine r_iload_2 d_X9_part_12 ?_
        refine r_if_lt d_X9_part_13 (fun c13 => ?_) (fun c13 => ?_)
        · -- taken at 13
          have c13 : y < 0 := (nI_ltI (a := y) (b := 0) (by omega) (by omega)).mp c13
          exfalso; omega
        · -- not taken at 13
          have c13 : ¬ y < 0 := fun zz9 => c13 ((nI_ltI (a := y) (b := 0) (by omega) (by omega)).mpr zz9)
          refine r_iload_2 d_X9_part_16 ?_
          refine r_push (v := nI 60) d_X9_part_17 ?_
          refine r_icmp_le d_X9_part_19 (fun c19 => ?_) (fun c19 => ?_)
          · -- taken at 19
            have c19 : y ≤ 60 := (nI_leI (a := y) (b := 60) (by omega) (by omega)).mp c19
            refine r_aload_4 d_X9_part_24 ?_
            refine r_S1 d_X9_part_26 (c_X9_asStalks2 (fs := []) hcell) ⟨rfl, rfl⟩ (Nat.le_of_ble_eq_true rfl) ?_
            refine r_astoreN_5 d_X9_part_29 (Nat.le_of_ble_eq_true rfl) (fun w hw => by cases hw <;> rfl) ?_
            refine r_aloadN_5 d_X9_part_31 ?_
            refine r_ifnonnullN d_X9_part_33 ?_
            refine r_aload_0 d_X9_part_36 ?_
            refine r_push (v := nI 3) d_X9_part_37 ?_
            refine r_V1 d_X9_part_38 (c_X9_found (w := 3) (by decide)) rfl rfl rfl ⟨rfl, rfl⟩ (Nat.le_of_ble_eq_true rfl) ?_
            refine r_ireturn d_X9_part_41 ⟨_, rfl, rfl⟩ ?_
            exact ⟨rfl, rfl⟩
          · -- not taken at 19
            have c19 : ¬ y ≤ 60 := fun zz9 => c19 ((nI_leI (a := y) (b := 60) (by omega) (by omega)).mpr zz9)
            exfalso; omega
      ·
        subst e
        subst e1 e2
        have hcell := (pmX_ne (h := h) (xi := xi) (xl := xl) (xc := xc) (XA := XA) (XB := XB) (a := 68 + j) (by omega)).trans hcell
        obtain ⟨b1, b2, b3⟩ := sp_pd_b (k := k) (f := f) (x := a) ok.2.2.1 (some y) (fun m hm => by cases hm; exact hy)
        have b2 : sp_pd k f (nI y) a = bI (sp_ls k f [a] y) := b2
        have b3 : ∀ m, sp_ls k f [a] y = some m → m ≤ 60 := b3
        have b1 : nI y ≤ 60 := b1
        rw [hsp 1, if_pos (show sp_pk 1 = true from rfl)]
        have hr : (if nI y < 2 then Sum.inl (nI y) else if sp_in a 1 (nI y - 1) then .inl (nI (sp_left k f (nI y).toNatClampNeg a.toNatClampNeg)) else .inr 2 : Int32 ⊕ Nat) = match sp_ls k f [a] y with | none => .inr 2 | some m => .inl (nI m) := by
          have h2 : nI y < 2 ↔ y < 2 := nI_ltI (a := y) (b := 2) (by omega) (by omega)
          by_cases e : y < 2
          · rw [if_pos (h2.mpr e), sp_ls_1 (by omega), sp_ls_0]
          · rw [if_neg (fun z => e (h2.mp z)), show nI y - 1 = nI (y - 1) from pk_sub (a := y) (b := 1) (by omega)]
            by_cases e3 : sp_in a 1 (nI (y - 1)) = true
            · rw [if_pos e3, sp_ls_y (by omega) e3, sp_ls_0, nI_clamp (by omega)]
            · rw [if_neg e3, sp_ls_n (by omega) (by simpa using e3)]
        rw [hr]
        generalize sp_ls k f [a] y = o at b2 b3
        cases o with
        | none =>
          change pm_Cv _ _ _ (.int (-3)) (x_meet h xi xl xc XA XB 2)
          refine pm_enter rfl (Nat.le_of_ble_eq_true rfl) ?_
          show pm_V e_X9_part 0 [some (.ref 1), some (.int (nI j)), some (.int (nI y)), some (.int a), none, none, none] [] (pmX h xi xl xc XA XB) (0, 0) _
          refine r_aload_0 d_X9_part_0 ?_
          refine r_iload_1 d_X9_part_1 ?_
          refine r_V1 d_X9_part_2 hA rfl rfl rfl ⟨rfl, rfl⟩ (Nat.le_of_ble_eq_true rfl) ?_
          refine r_astore_4 d_X9_part_5 (Nat.le_of_ble_eq_true rfl) (fun w hw => by cases hw <;> rfl) ?_
          refine r_aload_4 d_X9_part_7 ?_
          refine r_ifnull d_X9_part_9 ?_
          refine r_iload_2 d_X9_part_12 ?_
          refine r_if_lt d_X9_part_13 (fun c13 => ?_) (fun c13 => ?_)
          · -- taken at 13
            have c13 : y < 0 := (nI_ltI (a := y) (b := 0) (by omega) (by omega)).mp c13
            exfalso; omega
          · -- not taken at 13
            have c13 : ¬ y < 0 := fun zz9 => c13 ((nI_ltI (a := y) (b := 0) (by omega) (by omega)).mpr zz9)
            refine r_iload_2 d_X9_part_16 ?_
            refine r_push (v := nI 60) d_X9_part_17 ?_
            refine r_icmp_le d_X9_part_19 (fun c19 => ?_) (fun c19 => ?_)
            · -- taken at 19
              have c19 : y ≤ 60 := (nI_leI (a := y) (b := 60) (by omega) (by omega)).mp c19
              refine r_aload_4 d_X9_part_24 ?_
              refine r_S1 d_X9_part_26 (c_X9_asStalks6 hcell) ⟨rfl, rfl⟩ (Nat.le_of_ble_eq_true rfl) ?_
              refine r_astore_5 d_X9_part_29 (Nat.le_of_ble_eq_true rfl) (fun w hw => by cases hw <;> rfl) ?_
              refine r_aload_5 d_X9_part_31 ?_
              refine r_ifnonnull d_X9_part_33 ?_
              refine r_aload_5 d_X9_part_42 ?_
              refine r_iload_2 d_X9_part_44 ?_
              refine r_iload_3 d_X9_part_45 ?_
              refine r_V2 d_X9_part_46_6 (c_X6_partedAt (pm_sk_of6 hcell) ok b1) hcell rfl rfl ⟨rfl, rfl⟩ (Nat.le_of_ble_eq_true rfl) ?_
              rw [b2]
              change pm_V _ _ _ (.int (-1) :: _) _ _ _
              refine r_istore_6 d_X9_part_49 (Nat.le_of_ble_eq_true rfl) (fun w hw => by cases hw <;> rfl) ?_
              refine r_iload_6 d_X9_part_51 ?_
              refine r_if_ge d_X9_part_53 (fun c53 => ?_) (fun c53 => ?_)
              · -- taken at 53
                exact absurd c53 (by decide)
              · -- not taken at 53
                refine r_aload_0 d_X9_part_56 ?_
                refine r_push (v := nI 2) d_X9_part_57 ?_
                refine r_V1 d_X9_part_58 (c_X9_found (w := 2) (by decide)) rfl rfl rfl ⟨rfl, rfl⟩ (Nat.le_of_ble_eq_true rfl) ?_
                refine r_goto d_X9_part_61 ?_
                refine r_ireturn d_X9_part_66 ⟨_, rfl, rfl⟩ ?_
                exact ⟨rfl, rfl⟩
            · -- not taken at 19
              have c19 : ¬ y ≤ 60 := fun zz9 => c19 ((nI_leI (a := y) (b := 60) (by omega) (by omega)).mpr zz9)
              exfalso; omega
        | some m =>
          change pm_Cv _ _ _ (.int (nI m)) (pmX h xi xl xc XA XB)
          have hm60 := b3 m rfl
          refine pm_enter rfl (Nat.le_of_ble_eq_true rfl) ?_
          show pm_V e_X9_part 0 [some (.ref 1), some (.int (nI j)), some (.int (nI y)), some (.int a), none, none, none] [] (pmX h xi xl xc XA XB) (0, 0) _
          refine r_aload_0 d_X9_part_0 ?_
          refine r_iload_1 d_X9_part_1 ?_
          refine r_V1 d_X9_part_2 hA rfl rfl rfl ⟨rfl, rfl⟩ (Nat.le_of_ble_eq_true rfl) ?_
          refine r_astore_4 d_X9_part_5 (Nat.le_of_ble_eq_true rfl) (fun w hw => by cases hw <;> rfl) ?_
          refine r_aload_4 d_X9_part_7 ?_
          refine r_ifnull d_X9_part_9 ?_
          refine r_iload_2 d_X9_part_12 ?_
          refine r_if_lt d_X9_part_13 (fun c13 => ?_) (fun c13 => ?_)
          · -- taken at 13
            have c13 : y < 0 := (nI_ltI (a := y) (b := 0) (by omega) (by omega)).mp c13
            exfalso; omega
          · -- not taken at 13
            have c13 : ¬ y < 0 := fun zz9 => c13 ((nI_ltI (a := y) (b := 0) (by omega) (by omega)).mpr zz9)
            refine r_iload_2 d_X9_part_16 ?_
            refine r_push (v := nI 60) d_X9_part_17 ?_
            refine r_icmp_le d_X9_part_19 (fun c19 => ?_) (fun c19 => ?_)
            · -- taken at 19
              have c19 : y ≤ 60 := (nI_leI (a := y) (b := 60) (by omega) (by omega)).mp c19
              refine r_aload_4 d_X9_part_24 ?_
              refine r_S1 d_X9_part_26 (c_X9_asStalks6 hcell) ⟨rfl, rfl⟩ (Nat.le_of_ble_eq_true rfl) ?_
              refine r_astore_5 d_X9_part_29 (Nat.le_of_ble_eq_true rfl) (fun w hw => by cases hw <;> rfl) ?_
              refine r_aload_5 d_X9_part_31 ?_
              refine r_ifnonnull d_X9_part_33 ?_
              refine r_aload_5 d_X9_part_42 ?_
              refine r_iload_2 d_X9_part_44 ?_
              refine r_iload_3 d_X9_part_45 ?_
              refine r_V2 d_X9_part_46_6 (c_X6_partedAt (pm_sk_of6 hcell) ok b1) hcell rfl rfl ⟨rfl, rfl⟩ (Nat.le_of_ble_eq_true rfl) ?_
              rw [b2]
              change pm_V _ _ _ (.int (nI m) :: _) _ _ _
              refine r_istore_6 d_X9_part_49 (Nat.le_of_ble_eq_true rfl) (fun w hw => by cases hw <;> rfl) ?_
              refine r_iload_6 d_X9_part_51 ?_
              refine r_if_ge d_X9_part_53 (fun c53 => ?_) (fun c53 => ?_)
              · -- taken at 53
                have c53 : 0 ≤ m := (nI_leI (a := 0) (b := m) (by omega) (by omega)).mp c53
                refine r_iload_6 d_X9_part_64 ?_
                refine r_ireturn d_X9_part_66 ⟨_, rfl, rfl⟩ ?_
                exact ⟨rfl, rfl⟩
              · -- not taken at 53
                have c53 : ¬ 0 ≤ m := fun zz9 => c53 ((nI_leI (a := 0) (b := m) (by omega) (by omega)).mpr zz9)
                exfalso; omega
            · -- not taken at 19
              have c19 : ¬ y ≤ 60 := fun zz9 => c19 ((nI_leI (a := y) (b := 60) (by omega) (by omega)).mpr zz9)
              exfalso; omega
      ·
        subst e
        have hcell := (pmX_ne (h := h) (xi := xi) (xl := xl) (xc := xc) (XA := XA) (XB := XB) (a := 68 + j) (by omega)).trans hcell
        obtain ⟨b1, b2, b3⟩ := sp_pd_b (k := k) (f := f) (x := a) ok.2.2.1 (some y) (fun m hm => by cases hm; exact hy)
        have b2 : sp_pd k f (nI y) a = bI (sp_ls k f [a] y) := b2
        have b3 : ∀ m, sp_ls k f [a] y = some m → m ≤ 60 := b3
        have b1 : nI y ≤ 60 := b1
        rw [hsp 3, if_pos (show sp_pk 3 = true from rfl)]
        have hr : (if nI y < 2 then Sum.inl (nI y) else if sp_in a 1 (nI y - 1) then .inl (nI (sp_left k f (nI y).toNatClampNeg a.toNatClampNeg)) else .inr 2 : Int32 ⊕ Nat) = match sp_ls k f [a] y with | none => .inr 2 | some m => .inl (nI m) := by
          have h2 : nI y < 2 ↔ y < 2 := nI_ltI (a := y) (b := 2) (by omega) (by omega)
          by_cases e : y < 2
          · rw [if_pos (h2.mpr e), sp_ls_1 (by omega), sp_ls_0]
          · rw [if_neg (fun z => e (h2.mp z)), show nI y - 1 = nI (y - 1) from pk_sub (a := y) (b := 1) (by omega)]
            by_cases e3 : sp_in a 1 (nI (y - 1)) = true
            · rw [if_pos e3, sp_ls_y (by omega) e3, sp_ls_0, nI_clamp (by omega)]
            · rw [if_neg e3, sp_ls_n (by omega) (by simpa using e3)]
        rw [hr]
        generalize sp_ls k f [a] y = o at b2 b3
        cases o with
        | none =>
          change pm_Cv _ _ _ (.int (-3)) (x_meet h xi xl xc XA XB 2)
          refine pm_enter rfl (Nat.le_of_ble_eq_true rfl) ?_
          show pm_V e_X9_part 0 [some (.ref 1), some (.int (nI j)), some (.int (nI y)), some (.int a), none, none, none] [] (pmX h xi xl xc XA XB) (0, 0) _
          refine r_aload_0 d_X9_part_0 ?_
          refine r_iload_1 d_X9_part_1 ?_
          refine r_V1 d_X9_part_2 hA rfl rfl rfl ⟨rfl, rfl⟩ (Nat.le_of_ble_eq_true rfl) ?_
          refine r_astore_4 d_X9_part_5 (Nat.le_of_ble_eq_true rfl) (fun w hw => by cases hw <;> rfl) ?_
          refine r_aload_4 d_X9_part_7 ?_
          refine r_ifnull d_X9_part_9 ?_
          refine r_iload_2 d_X9_part_12 ?_
          refine r_if_lt d_X9_part_13 (fun c13 => ?_) (fun c13 => ?_)
          · -- taken at 13
            have c13 : y < 0 := (nI_ltI (a := y) (b := 0) (by omega) (by omega)).mp c13
            exfalso; omega
          · -- not taken at 13
            have c13 : ¬ y < 0 := fun zz9 => c13 ((nI_ltI (a := y) (b := 0) (by omega) (by omega)).mpr zz9)
            refine r_iload_2 d_X9_part_16 ?_
            refine r_push (v := nI 60) d_X9_part_17 ?_
            refine r_icmp_le d_X9_part_19 (fun c19 => ?_) (fun c19 => ?_)
            · -- taken at 19
              have c19 : y ≤ 60 := (nI_leI (a := y) (b := 60) (by omega) (by omega)).mp c19
              refine r_aload_4 d_X9_part_24 ?_
              refine r_S1 d_X9_part_26 (c_X9_asStalks7 hcell) ⟨rfl, rfl⟩ (Nat.le_of_ble_eq_true rfl) ?_
              refine r_astore_5 d_X9_part_29 (Nat.le_of_ble_eq_true rfl) (fun w hw => by cases hw <;> rfl) ?_
              refine r_aload_5 d_X9_part_31 ?_
              refine r_ifnonnull d_X9_part_33 ?_
              refine r_aload_5 d_X9_part_42 ?_
              refine r_iload_2 d_X9_part_44 ?_
              refine r_iload_3 d_X9_part_45 ?_
              refine r_V2 d_X9_part_46_7 (c_X6_partedAt (pm_sk_of7 hcell) ok b1) hcell rfl rfl ⟨rfl, rfl⟩ (Nat.le_of_ble_eq_true rfl) ?_
              rw [b2]
              change pm_V _ _ _ (.int (-1) :: _) _ _ _
              refine r_istore_6 d_X9_part_49 (Nat.le_of_ble_eq_true rfl) (fun w hw => by cases hw <;> rfl) ?_
              refine r_iload_6 d_X9_part_51 ?_
              refine r_if_ge d_X9_part_53 (fun c53 => ?_) (fun c53 => ?_)
              · -- taken at 53
                exact absurd c53 (by decide)
              · -- not taken at 53
                refine r_aload_0 d_X9_part_56 ?_
                refine r_push (v := nI 2) d_X9_part_57 ?_
                refine r_V1 d_X9_part_58 (c_X9_found (w := 2) (by decide)) rfl rfl rfl ⟨rfl, rfl⟩ (Nat.le_of_ble_eq_true rfl) ?_
                refine r_goto d_X9_part_61 ?_
                refine r_ireturn d_X9_part_66 ⟨_, rfl, rfl⟩ ?_
                exact ⟨rfl, rfl⟩
            · -- not taken at 19
              have c19 : ¬ y ≤ 60 := fun zz9 => c19 ((nI_leI (a := y) (b := 60) (by omega) (by omega)).mpr zz9)
              exfalso; omega
        | some m =>
          change pm_Cv _ _ _ (.int (nI m)) (pmX h xi xl xc XA XB)
          have hm60 := b3 m rfl
          refine pm_enter rfl (Nat.le_of_ble_eq_true rfl) ?_
          show pm_V e_X9_part 0 [some (.ref 1), some (.int (nI j)), some (.int (nI y)), some (.int a), none, none, none] [] (pmX h xi xl xc XA XB) (0, 0) _
          refine r_aload_0 d_X9_part_0 ?_
          refine r_iload_1 d_X9_part_1 ?_
          refine r_V1 d_X9_part_2 hA rfl rfl rfl ⟨rfl, rfl⟩ (Nat.le_of_ble_eq_true rfl) ?_
          refine r_astore_4 d_X9_part_5 (Nat.le_of_ble_eq_true rfl) (fun w hw => by cases hw <;> rfl) ?_
          refine r_aload_4 d_X9_part_7 ?_
          refine r_ifnull d_X9_part_9 ?_
          refine r_iload_2 d_X9_part_12 ?_
          refine r_if_lt d_X9_part_13 (fun c13 => ?_) (fun c13 => ?_)
          · -- taken at 13
            have c13 : y < 0 := (nI_ltI (a := y) (b := 0) (by omega) (by omega)).mp c13
            exfalso; omega
          · -- not taken at 13
            have c13 : ¬ y < 0 := fun zz9 => c13 ((nI_ltI (a := y) (b := 0) (by omega) (by omega)).mpr zz9)
            refine r_iload_2 d_X9_part_16 ?_
            refine r_push (v := nI 60) d_X9_part_17 ?_
            refine r_icmp_le d_X9_part_19 (fun c19 => ?_) (fun c19 => ?_)
            · -- taken at 19
              have c19 : y ≤ 60 := (nI_leI (a := y) (b := 60) (by omega) (by omega)).mp c19
              refine r_aload_4 d_X9_part_24 ?_
              refine r_S1 d_X9_part_26 (c_X9_asStalks7 hcell) ⟨rfl, rfl⟩ (Nat.le_of_ble_eq_true rfl) ?_
              refine r_astore_5 d_X9_part_29 (Nat.le_of_ble_eq_true rfl) (fun w hw => by cases hw <;> rfl) ?_
              refine r_aload_5 d_X9_part_31 ?_
              refine r_ifnonnull d_X9_part_33 ?_
              refine r_aload_5 d_X9_part_42 ?_
              refine r_iload_2 d_X9_part_44 ?_
              refine r_iload_3 d_X9_part_45 ?_
              refine r_V2 d_X9_part_46_7 (c_X6_partedAt (pm_sk_of7 hcell) ok b1) hcell rfl rfl ⟨rfl, rfl⟩ (Nat.le_of_ble_eq_true rfl) ?_
              rw [b2]
              change pm_V _ _ _ (.int (nI m) :: _) _ _ _
              refine r_istore_6 d_X9_part_49 (Nat.le_of_ble_eq_true rfl) (fun w hw => by cases hw <;> rfl) ?_
              refine r_iload_6 d_X9_part_51 ?_
              refine r_if_ge d_X9_part_53 (fun c53 => ?_) (fun c53 => ?_)
              · -- taken at 53
                have c53 : 0 ≤ m := (nI_leI (a := 0) (b := m) (by omega) (by omega)).mp c53
                refine r_iload_6 d_X9_part_64 ?_
                refine r_ireturn d_X9_part_66 ⟨_, rfl, rfl⟩ ?_
                exact ⟨rfl, rfl⟩
              · -- not taken at 53
                have c53 : ¬ 0 ≤ m := fun zz9 => c53 ((nI_leI (a := 0) (b := m) (by omega) (by omega)).mpr zz9)
                exfalso; omega
            · -- not taken at 19
              have c19 : ¬ y ≤ 60 := fun zz9 => c19 ((nI_leI (a := y) (b := 60) (by omega) (by omega)).mpr zz9)
              exfalso; omega
    · rw [show sp_part (some (kd, n, k, f, lo, hi)) x a = .inl (-1) from if_neg hx]
      change pm_Cv _ _ _ (.int (-1)) (pmX h xi xl xc XA XB)
      refine pm_enter rfl (Nat.le_of_ble_eq_true rfl) ?_
      show pm_V e_X9_part 0 [some (.ref 1), some (.int (nI j)), some (.int x), some (.int a), none, none, none] [] (pmX h xi xl xc XA XB) (0, 0) _
      refine r_aload_0 d_X9_part_0 ?_
      refine r_iload_1 d_X9_part_1 ?_
      refine r_V1 d_X9_part_2 hA rfl rfl rfl ⟨rfl, rfl⟩ (Nat.le_of_ble_eq_true rfl) ?_
      refine r_astore_4 d_X9_part_5 (Nat.le_of_ble_eq_true rfl) (fun w hw => by cases hw <;> rfl) ?_
      refine r_aload_4 d_X9_part_7 ?_
      refine r_ifnull d_X9_part_9 ?_
      refine r_iload_2 d_X9_part_12 ?_
      refine r_if_lt d_X9_part_13 (fun c13 => ?_) (fun c13 => ?_)
      · -- taken at 13
        refine r_push d_X9_part_22 ?_
        refine r_ireturn d_X9_part_23 ⟨_, rfl, rfl⟩ ?_
        exact ⟨rfl, rfl⟩
      · -- not taken at 13
        refine r_iload_2 d_X9_part_16 ?_
        refine r_push d_X9_part_17 ?_
        refine r_icmp_le d_X9_part_19 (fun c19 => ?_) (fun c19 => ?_)
        · -- taken at 19
          exact absurd (decide_eq_true ⟨Int32.not_lt.mp c13, c19⟩) hx
        · -- not taken at 19
          refine r_push d_X9_part_22 ?_
          refine r_ireturn d_X9_part_23 ⟨_, rfl, rfl⟩ ?_
          exact ⟨rfl, rfl⟩
set_option maxRecDepth 10000 in
set_option maxHeartbeats 4000000 in
theorem c_X9_line {h : pm_H} {xi : Nat → Int32} {xl : Nat → Int64} {xc : Nat → Option Nat} {XA : Nat → Nat → Int32} {XB : Nat → Nat → Int64} {c : Int32} {cn : Nat} {C : Nat → sp_Cs} (hCC : x_CC h xi xc cn C) {x1 x2 x3 : Int32} : pm_Cv e_X9_line [.ref 1, .int c, .int x1, .int x2, .int x3] (pmX h xi xl xc XA XB) (.int (sp_ans (sp_line ((pm_ci c cn).map C) x1 x2 x3))) (x_fin h xi xl xc XA XB (sp_line ((pm_ci c cn).map C) x1 x2 x3)) := by
  cases hci : pm_ci c cn with
  | none =>
    change pm_Cv _ _ _ (.int (-1)) (pmX h xi xl xc XA XB)
    refine pm_enter rfl (Nat.le_of_ble_eq_true rfl) ?_
    show pm_V e_X9_line 0 [some (.ref 1), some (.int c), some (.int x1), some (.int x2), some (.int x3), none, none, none, none, none] [] (pmX h xi xl xc XA XB) (0, 0) _
    refine r_aload_0 d_X9_line_0 ?_
    refine r_iload_1 d_X9_line_1 ?_
    refine r_V1 d_X9_line_2 (c_X9_casterAt_no hCC.1 hci) rfl rfl rfl ⟨rfl, rfl⟩ (Nat.le_of_ble_eq_true rfl) ?_
    refine r_astoreN_5 d_X9_line_5 (Nat.le_of_ble_eq_true rfl) (fun w hw => by cases hw <;> rfl) ?_
    refine r_aloadN_5 d_X9_line_7 ?_
    refine r_ifnonnullN d_X9_line_9 ?_
    refine r_push d_X9_line_12 ?_
    refine r_ireturn d_X9_line_13 ⟨_, rfl, rfl⟩ ?_
    exact ⟨rfl, rfl⟩
  | some j =>
    obtain ⟨hj, rfl⟩ := pm_ci_some (Nat.lt_of_le_of_lt hCC.2.1 (by decide)) hci
    have hA : pm_Cv e_X9_casterAt [.ref 1, .int (nI j)] (pmX h xi xl xc XA XB) (.ref (68 + j)) (pmX h xi xl xc XA XB) := c_X9_casterAt hCC hj
    have hcs := (hCC.2.2 j hj).2
    change pm_Cv _ _ _ (.int (sp_ans (sp_line (some (C j)) x1 x2 x3))) (x_fin h xi xl xc XA XB (sp_line (some (C j)) x1 x2 x3))
    generalize C j = q9 at hcs ⊢
    obtain ⟨kd, n, k, f, lo, hi⟩ := q9
    change pm_cs h (68 + j) kd n k f lo hi at hcs
    rcases hcs with ⟨e, hcell⟩ | ⟨e, hcell⟩ | ⟨e, e1, e2, ok, hcell⟩ | ⟨e, ok, hcell⟩
    ·
      subst e
      have hcell := (pmX_ne (h := h) (xi := xi) (xl := xl) (xc := xc) (XA := XA) (XB := XB) (a := 68 + j) (by omega)).trans hcell
      change pm_Cv _ _ _ (.int (-3)) (x_meet h xi xl xc XA XB 3)
      refine pm_enter rfl (Nat.le_of_ble_eq_true rfl) ?_
      show pm_V e_X9_line 0 [some (.ref 1), some (.int (nI j)), some (.int x1), some (.int x2), some (.int x3), none, none, none, none, none] [] (pmX h xi xl xc XA XB) (0, 0) _
      refine r_aload_0 d_X9_line_0 ?_
      refine r_iload_1 d_X9_line_1 ?_
      refine r_V1 d_X9_line_2 hA rfl rfl rfl ⟨rfl, rfl⟩ (Nat.le_of_ble_eq_true rfl) ?_
      refine r_astore_5 d_X9_line_5 (Nat.le_of_ble_eq_true rfl) (fun w hw => by cases hw <;> rfl) ?_
      refine r_aload_5 d_X9_line_7 ?_
      refine r_ifnonnull d_X9_line_9 ?_
      refine r_aload_5 d_X9_line_14 ?_
      refine r_S1 d_X9_line_16 (c_X9_asStalks1 (fs := []) hcell) ⟨rfl, rfl⟩ (Nat.le_of_ble_eq_true rfl) ?_
      refine r_astoreN_6 d_X9_line_19 (Nat.le_of_ble_eq_true rfl) (fun w hw => by cases hw <;> rfl) ?_
      refine r_aloadN_6 d_X9_line_21 ?_
      refine r_ifnonnullN d_X9_line_23 ?_
      refine r_aload_0 d_X9_line_26 ?_
      refine r_push (v := nI 3) d_X9_line_27 ?_
      refine r_V1 d_X9_line_28 (c_X9_found (w := 3) (by decide)) rfl rfl rfl ⟨rfl, rfl⟩ (Nat.le_of_ble_eq_true rfl) ?_
      refine r_ireturn d_X9_line_31 ⟨_, rfl, rfl⟩ ?_
      exact ⟨rfl, rfl⟩
    ·
      subst e
      have hcell := (pmX_ne (h := h) (xi := xi) (xl := xl) (xc := xc) (XA := XA) (XB := XB) (a := 68 + j) (by omega)).trans hcell
      change pm_Cv _ _ _ (.int (-3)) (x_meet h xi xl xc XA XB 3)
      refine pm_enter rfl (Nat.le_of_ble_eq_true rfl) ?_
      show pm_V e_X9_line 0 [some (.ref 1), some (.int (nI j)), some (.int x1), some (.int x2), some (.int x3), none, none, none, none, none] [] (pmX h xi xl xc XA XB) (0, 0) _
      refine r_aload_0 d_X9_line_0 ?_
      refine r_iload_1 d_X9_line_1 ?_
      refine r_V1 d_X9_line_2 hA rfl rfl rfl ⟨rfl, rfl⟩ (Nat.le_of_ble_eq_true rfl) ?_
      refine r_astore_5 d_X9_line_5 (Nat.le_of_ble_eq_true rfl) (fun w hw => by cases hw <;> rfl) ?_
      refine r_aload_5 d_X9_line_7 ?_
      refine r_ifnonnull d_X9_line_9 ?_
      refine r_aload_5 d_X9_line_14 ?_
      refine r_S1 d_X9_line_16 (c_X9_asStalks2 (fs := []) hcell) ⟨rfl, rfl⟩ (Nat.le_of_ble_eq_true rfl) ?_
      refine r_astoreN_6 d_X9_line_19 (Nat.le_of_ble_eq_true rfl) (fun w hw => by cases hw <;> rfl) ?_
      refine r_aloadN_6 d_X9_line_21 ?_
      refine r_ifnonnullN d_X9_line_23 ?_
      refine r_aload_0 d_X9_line_26 ?_
      refine r_push (v := nI 3) d_X9_line_27 ?_
      refine r_V1 d_X9_line_28 (c_X9_found (w := 3) (by decide)) rfl rfl rfl ⟨rfl, rfl⟩ (Nat.le_of_ble_eq_true rfl) ?_
      refine r_ireturn d_X9_line_31 ⟨_, rfl, rfl⟩ ?_
      exact ⟨rfl, rfl⟩
    ·
      subst e
      subst e1 e2
      have hcell := (pmX_ne (h := h) (xi := xi) (xl := xl) (xc := xc) (XA := XA) (XB := XB) (a := 68 + j) (by omega)).trans hcell
      obtain ⟨a1, a2, a3⟩ := sp_pd_b (k := k) (f := f) (x := x1) ok.2.2.1 (some n) (fun m hm => by cases hm; exact ok.2.1)
      obtain ⟨b1, b2, b3⟩ := sp_pd_b (k := k) (f := f) (x := x2) ok.2.2.1 _ a3
      obtain ⟨d1, d2, d3⟩ := sp_pd_b (k := k) (f := f) (x := x3) ok.2.2.1 _ b3
      have el : sp_ls k f [x1, x2, x3] n = (((some n).bind (fun n => sp_ls k f [x1] n)).bind (fun n => sp_ls k f [x2] n)).bind (fun n => sp_ls k f [x3] n) := by
        rw [sp_ls_b]
        show (sp_ls k f [x1] n).bind _ = ((sp_ls k f [x1] n).bind _).bind _
        cases sp_ls k f [x1] n with
        | none => rfl
        | some m => exact sp_ls_b
      rw [← el] at d2 d3
      have a2 : sp_pd k f (nI n) x1 = bI ((some n).bind (fun n => sp_ls k f [x1] n)) := a2
      have a1 : nI n ≤ 60 := a1
      have hsp : sp_line (some (1, n, k, f, 1, 59)) x1 x2 x3 = sp_lr k (sp_ls k f [x1, x2, x3] n) := rfl
      rw [hsp]
      clear hsp el
      generalize sp_ls k f [x1, x2, x3] n = o at d2 d3 ⊢
      cases o with
      | none =>
        change pm_Cv _ _ _ (.int (-3)) (x_meet h xi xl xc XA XB 2)
        refine pm_enter rfl (Nat.le_of_ble_eq_true rfl) ?_
        show pm_V e_X9_line 0 [some (.ref 1), some (.int (nI j)), some (.int x1), some (.int x2), some (.int x3), none, none, none, none, none] [] (pmX h xi xl xc XA XB) (0, 0) _
        refine r_aload_0 d_X9_line_0 ?_
        refine r_iload_1 d_X9_line_1 ?_
        refine r_V1 d_X9_line_2 hA rfl rfl rfl ⟨rfl, rfl⟩ (Nat.le_of_ble_eq_true rfl) ?_
        refine r_astore_5 d_X9_line_5 (Nat.le_of_ble_eq_true rfl) (fun w hw => by cases hw <;> rfl) ?_
        refine r_aload_5 d_X9_line_7 ?_
        refine r_ifnonnull d_X9_line_9 ?_
        refine r_aload_5 d_X9_line_14 ?_
        refine r_S1 d_X9_line_16 (c_X9_asStalks6 hcell) ⟨rfl, rfl⟩ (Nat.le_of_ble_eq_true rfl) ?_
        refine r_astore_6 d_X9_line_19 (Nat.le_of_ble_eq_true rfl) (fun w hw => by cases hw <;> rfl) ?_
        refine r_aload_6 d_X9_line_21 ?_
        refine r_ifnonnull d_X9_line_23 ?_
        refine r_aload_6 d_X9_line_32 ?_
        refine r_aload_6 d_X9_line_34 ?_
        refine r_get d_X9_line_36 s6_bundle hcell rfl ?_
        refine r_iload_2 d_X9_line_39 ?_
        refine r_V2 d_X9_line_40_6 (c_X6_partedAt (pm_sk_of6 hcell) ok a1) hcell rfl rfl ⟨rfl, rfl⟩ (Nat.le_of_ble_eq_true rfl) ?_
        rw [a2]
        refine r_istore_7 d_X9_line_43 (Nat.le_of_ble_eq_true rfl) (fun w hw => by cases hw <;> rfl) ?_
        refine r_aload_6 d_X9_line_45 ?_
        refine r_iload_7 d_X9_line_47 ?_
        refine r_iload_3 d_X9_line_49 ?_
        refine r_V2 d_X9_line_50_6 (c_X6_partedAt (pm_sk_of6 hcell) ok b1) hcell rfl rfl ⟨rfl, rfl⟩ (Nat.le_of_ble_eq_true rfl) ?_
        rw [b2]
        refine r_istore_8 d_X9_line_53 (Nat.le_of_ble_eq_true rfl) (fun w hw => by cases hw <;> rfl) ?_
        refine r_aload_6 d_X9_line_55 ?_
        refine r_iload_8 d_X9_line_57 ?_
        refine r_iload_4 d_X9_line_59 ?_
        refine r_V2 d_X9_line_61_6 (c_X6_partedAt (pm_sk_of6 hcell) ok d1) hcell rfl rfl ⟨rfl, rfl⟩ (Nat.le_of_ble_eq_true rfl) ?_
        rw [d2]
        change pm_V _ _ _ (.int (-1) :: _) _ _ _
        refine r_istore_9 d_X9_line_64 (Nat.le_of_ble_eq_true rfl) (fun w hw => by cases hw <;> rfl) ?_
        refine r_iload_9 d_X9_line_66 ?_
        refine r_if_ge d_X9_line_68 (fun c68 => ?_) (fun c68 => ?_)
        · -- taken at 68
          exact absurd c68 (by decide)
        · -- not taken at 68
          refine r_aload_0 d_X9_line_71 ?_
          refine r_push (v := nI 2) d_X9_line_72 ?_
          refine r_V1 d_X9_line_73 (c_X9_found (w := 2) (by decide)) rfl rfl rfl ⟨rfl, rfl⟩ (Nat.le_of_ble_eq_true rfl) ?_
          refine r_goto d_X9_line_76 ?_
          refine r_ireturn d_X9_line_86 ⟨_, rfl, rfl⟩ ?_
          exact ⟨rfl, rfl⟩
      | some m =>
        change pm_Cv _ _ _ (.int (nI (m / k))) (pmX h xi xl xc XA XB)
        have hm60 := d3 m rfl
        refine pm_enter rfl (Nat.le_of_ble_eq_true rfl) ?_
        show pm_V e_X9_line 0 [some (.ref 1), some (.int (nI j)), some (.int x1), some (.int x2), some (.int x3), none, none, none, none, none] [] (pmX h xi xl xc XA XB) (0, 0) _
        refine r_aload_0 d_X9_line_0 ?_
        refine r_iload_1 d_X9_line_1 ?_
        refine r_V1 d_X9_line_2 hA rfl rfl rfl ⟨rfl, rfl⟩ (Nat.le_of_ble_eq_true rfl) ?_
        refine r_astore_5 d_X9_line_5 (Nat.le_of_ble_eq_true rfl) (fun w hw => by cases hw <;> rfl) ?_
        refine r_aload_5 d_X9_line_7 ?_
        refine r_ifnonnull d_X9_line_9 ?_
        refine r_aload_5 d_X9_line_14 ?_
        refine r_S1 d_X9_line_16 (c_X9_asStalks6 hcell) ⟨rfl, rfl⟩ (Nat.le_of_ble_eq_true rfl) ?_
        refine r_astore_6 d_X9_line_19 (Nat.le_of_ble_eq_true rfl) (fun w hw => by cases hw <;> rfl) ?_
        refine r_aload_6 d_X9_line_21 ?_
        refine r_ifnonnull d_X9_line_23 ?_
        refine r_aload_6 d_X9_line_32 ?_
        refine r_aload_6 d_X9_line_34 ?_
        refine r_get d_X9_line_36 s6_bundle hcell rfl ?_
        refine r_iload_2 d_X9_line_39 ?_
        refine r_V2 d_X9_line_40_6 (c_X6_partedAt (pm_sk_of6 hcell) ok a1) hcell rfl rfl ⟨rfl, rfl⟩ (Nat.le_of_ble_eq_true rfl) ?_
        rw [a2]
        refine r_istore_7 d_X9_line_43 (Nat.le_of_ble_eq_true rfl) (fun w hw => by cases hw <;> rfl) ?_
        refine r_aload_6 d_X9_line_45 ?_
        refine r_iload_7 d_X9_line_47 ?_
        refine r_iload_3 d_X9_line_49 ?_
        refine r_V2 d_X9_line_50_6 (c_X6_partedAt (pm_sk_of6 hcell) ok b1) hcell rfl rfl ⟨rfl, rfl⟩ (Nat.le_of_ble_eq_true rfl) ?_
        rw [b2]
        refine r_istore_8 d_X9_line_53 (Nat.le_of_ble_eq_true rfl) (fun w hw => by cases hw <;> rfl) ?_
        refine r_aload_6 d_X9_line_55 ?_
        refine r_iload_8 d_X9_line_57 ?_
        refine r_iload_4 d_X9_line_59 ?_
        refine r_V2 d_X9_line_61_6 (c_X6_partedAt (pm_sk_of6 hcell) ok d1) hcell rfl rfl ⟨rfl, rfl⟩ (Nat.le_of_ble_eq_true rfl) ?_
        rw [d2]
        change pm_V _ _ _ (.int (nI m) :: _) _ _ _
        refine r_istore_9 d_X9_line_64 (Nat.le_of_ble_eq_true rfl) (fun w hw => by cases hw <;> rfl) ?_
        refine r_iload_9 d_X9_line_66 ?_
        refine r_if_ge d_X9_line_68 (fun c68 => ?_) (fun c68 => ?_)
        · -- taken at 68
          have c68 : 0 ≤ m := (nI_leI (a := 0) (b := m) (by omega) (by omega)).mp c68
          refine r_aload_6 d_X9_line_79 ?_
          refine r_iload_9 d_X9_line_81 ?_
          refine r_V1 d_X9_line_83_6 (c_X6_lineOf (pm_sk_of6 hcell) ok hm60) hcell rfl rfl ⟨rfl, rfl⟩ (Nat.le_of_ble_eq_true rfl) ?_
          refine r_ireturn d_X9_line_86 ⟨_, rfl, rfl⟩ ?_
          exact ⟨rfl, rfl⟩
        · -- not taken at 68
          have c68 : ¬ 0 ≤ m := fun zz9 => c68 ((nI_leI (a := 0) (b := m) (by omega) (by omega)).mpr zz9)
          exfalso; omega
    ·
      subst e
      have hcell := (pmX_ne (h := h) (xi := xi) (xl := xl) (xc := xc) (XA := XA) (XB := XB) (a := 68 + j) (by omega)).trans hcell
      obtain ⟨a1, a2, a3⟩ := sp_pd_b (k := k) (f := f) (x := x1) ok.2.2.1 (some n) (fun m hm => by cases hm; exact ok.2.1)
      obtain ⟨b1, b2, b3⟩ := sp_pd_b (k := k) (f := f) (x := x2) ok.2.2.1 _ a3
      obtain ⟨d1, d2, d3⟩ := sp_pd_b (k := k) (f := f) (x := x3) ok.2.2.1 _ b3
      have el : sp_ls k f [x1, x2, x3] n = (((some n).bind (fun n => sp_ls k f [x1] n)).bind (fun n => sp_ls k f [x2] n)).bind (fun n => sp_ls k f [x3] n) := by
        rw [sp_ls_b]
        show (sp_ls k f [x1] n).bind _ = ((sp_ls k f [x1] n).bind _).bind _
        cases sp_ls k f [x1] n with
        | none => rfl
        | some m => exact sp_ls_b
      rw [← el] at d2 d3
      have a2 : sp_pd k f (nI n) x1 = bI ((some n).bind (fun n => sp_ls k f [x1] n)) := a2
      have a1 : nI n ≤ 60 := a1
      have hsp : sp_line (some (3, n, k, f, lo, hi)) x1 x2 x3 = sp_lr k (sp_ls k f [x1, x2, x3] n) := rfl
      rw [hsp]
      clear hsp el
      generalize sp_ls k f [x1, x2, x3] n = o at d2 d3 ⊢
      cases o with
      | none =>
        change pm_Cv _ _ _ (.int (-3)) (x_meet h xi xl xc XA XB 2)
        refine pm_enter rfl (Nat.le_of_ble_eq_true rfl) ?_
        show pm_V e_X9_line 0 [some (.ref 1), some (.int (nI j)), some (.int x1), some (.int x2), some (.int x3), none, none, none, none, none] [] (pmX h xi xl xc XA XB) (0, 0) _
        refine r_aload_0 d_X9_line_0 ?_
        refine r_iload_1 d_X9_line_1 ?_
        refine r_V1 d_X9_line_2 hA rfl rfl rfl ⟨rfl, rfl⟩ (Nat.le_of_ble_eq_true rfl) ?_
        refine r_astore_5 d_X9_line_5 (Nat.le_of_ble_eq_true rfl) (fun w hw => by cases hw <;> rfl) ?_
        refine r_aload_5 d_X9_line_7 ?_
        refine r_ifnonnull d_X9_line_9 ?_
        refine r_aload_5 d_X9_line_14 ?_
        refine r_S1 d_X9_line_16 (c_X9_asStalks7 hcell) ⟨rfl, rfl⟩ (Nat.le_of_ble_eq_true rfl) ?_
        refine r_astore_6 d_X9_line_19 (Nat.le_of_ble_eq_true rfl) (fun w hw => by cases hw <;> rfl) ?_
        refine r_aload_6 d_X9_line_21 ?_
        refine r_ifnonnull d_X9_line_23 ?_
        refine r_aload_6 d_X9_line_32 ?_
        refine r_aload_6 d_X9_line_34 ?_
        refine r_get d_X9_line_36 s7_bundle hcell rfl ?_
        refine r_iload_2 d_X9_line_39 ?_
        refine r_V2 d_X9_line_40_7 (c_X6_partedAt (pm_sk_of7 hcell) ok a1) hcell rfl rfl ⟨rfl, rfl⟩ (Nat.le_of_ble_eq_true rfl) ?_
        rw [a2]
        refine r_istore_7 d_X9_line_43 (Nat.le_of_ble_eq_true rfl) (fun w hw => by cases hw <;> rfl) ?_
        refine r_aload_6 d_X9_line_45 ?_
        refine r_iload_7 d_X9_line_47 ?_
        refine r_iload_3 d_X9_line_49 ?_
        refine r_V2 d_X9_line_50_7 (c_X6_partedAt (pm_sk_of7 hcell) ok b1) hcell rfl rfl ⟨rfl, rfl⟩ (Nat.le_of_ble_eq_true rfl) ?_
        rw [b2]
        refine r_istore_8 d_X9_line_53 (Nat.le_of_ble_eq_true rfl) (fun w hw => by cases hw <;> rfl) ?_
        refine r_aload_6 d_X9_line_55 ?_
        refine r_iload_8 d_X9_line_57 ?_
        refine r_iload_4 d_X9_line_59 ?_
        refine r_V2 d_X9_line_61_7 (c_X6_partedAt (pm_sk_of7 hcell) ok d1) hcell rfl rfl ⟨rfl, rfl⟩ (Nat.le_of_ble_eq_true rfl) ?_
        rw [d2]
        change pm_V _ _ _ (.int (-1) :: _) _ _ _
        refine r_istore_9 d_X9_line_64 (Nat.le_of_ble_eq_true rfl) (fun w hw => by cases hw <;> rfl) ?_
        refine r_iload_9 d_X9_line_66 ?_
        refine r_if_ge d_X9_line_68 (fun c68 => ?_) (fun c68 => ?_)
        · -- taken at 68
          exact absurd c68 (by decide)
        · -- not taken at 68
          refine r_aload_0 d_X9_line_71 ?_
          refine r_push (v := nI 2) d_X9_line_72 ?_
          refine r_V1 d_X9_line_73 (c_X9_found (w := 2) (by decide)) rfl rfl rfl ⟨rfl, rfl⟩ (Nat.le_of_ble_eq_true rfl) ?_
          refine r_goto d_X9_line_76 ?_
          refine r_ireturn d_X9_line_86 ⟨_, rfl, rfl⟩ ?_
          exact ⟨rfl, rfl⟩
      | some m =>
        change pm_Cv _ _ _ (.int (nI (m / k))) (pmX h xi xl xc XA XB)
        have hm60 := d3 m rfl
        refine pm_enter rfl (Nat.le_of_ble_eq_true rfl) ?_
        show pm_V e_X9_line 0 [some (.ref 1), some (.int (nI j)), some (.int x1), some (.int x2), some (.int x3), none, none, none, none, none] [] (pmX h xi xl xc XA XB) (0, 0) _
        refine r_aload_0 d_X9_line_0 ?_
        refine r_iload_1 d_X9_line_1 ?_
        refine r_V1 d_X9_line_2 hA rfl rfl rfl ⟨rfl, rfl⟩ (Nat.le_of_ble_eq_true rfl) ?_
        refine r_astore_5 d_X9_line_5 (Nat.le_of_ble_eq_true rfl) (fun w hw => by cases hw <;> rfl) ?_
        refine r_aload_5 d_X9_line_7 ?_
        refine r_ifnonnull d_X9_line_9 ?_
        refine r_aload_5 d_X9_line_14 ?_
        refine r_S1 d_X9_line_16 (c_X9_asStalks7 hcell) ⟨rfl, rfl⟩ (Nat.le_of_ble_eq_true rfl) ?_
        refine r_astore_6 d_X9_line_19 (Nat.le_of_ble_eq_true rfl) (fun w hw => by cases hw <;> rfl) ?_
        refine r_aload_6 d_X9_line_21 ?_
        refine r_ifnonnull d_X9_line_23 ?_
        refine r_aload_6 d_X9_line_32 ?_
        refine r_aload_6 d_X9_line_34 ?_
        refine r_get d_X9_line_36 s7_bundle hcell rfl ?_
        refine r_iload_2 d_X9_line_39 ?_
        refine r_V2 d_X9_line_40_7 (c_X6_partedAt (pm_sk_of7 hcell) ok a1) hcell rfl rfl ⟨rfl, rfl⟩ (Nat.le_of_ble_eq_true rfl) ?_
        rw [a2]
        refine r_istore_7 d_X9_line_43 (Nat.le_of_ble_eq_true rfl) (fun w hw => by cases hw <;> rfl) ?_
        refine r_aload_6 d_X9_line_45 ?_
        refine r_iload_7 d_X9_line_47 ?_
        refine r_iload_3 d_X9_line_49 ?_
        refine r_V2 d_X9_line_50_7 (c_X6_partedAt (pm_sk_of7 hcell) ok b1) hcell rfl rfl ⟨rfl, rfl⟩ (Nat.le_of_ble_eq_true rfl) ?_
        rw [b2]
        refine r_istore_8 d_X9_line_53 (Nat.le_of_ble_eq_true rfl) (fun w hw => by cases hw <;> rfl) ?_
        refine r_aload_6 d_X9_line_55 ?_
        refine r_iload_8 d_X9_line_57 ?_
        refine r_iload_4 d_X9_line_59 ?_
        refine r_V2 d_X9_line_61_7 (c_X6_partedAt (pm_sk_of7 hcell) ok d1) hcell rfl rfl ⟨rfl, rfl⟩ (Nat.le_of_ble_eq_true rfl) ?_
        rw [d2]
        change pm_V _ _ _ (.int (nI m) :: _) _ _ _
        refine r_istore_9 d_X9_line_64 (Nat.le_of_ble_eq_true rfl) (fun w hw => by cases hw <;> rfl) ?_
        refine r_iload_9 d_X9_line_66 ?_
        refine r_if_ge d_X9_line_68 (fun c68 => ?_) (fun c68 => ?_)
        · -- taken at 68
          have c68 : 0 ≤ m := (nI_leI (a := 0) (b := m) (by omega) (by omega)).mp c68
          refine r_aload_6 d_X9_line_79 ?_
          refine r_iload_9 d_X9_line_81 ?_
          refine r_V1 d_X9_line_83_7 (c_X6_lineOf (pm_sk_of7 hcell) ok hm60) hcell rfl rfl ⟨rfl, rfl⟩ (Nat.le_of_ble_eq_true rfl) ?_
          refine r_ireturn d_X9_line_86 ⟨_, rfl, rfl⟩ ?_
          exact ⟨rfl, rfl⟩
        · -- not taken at 68
          have c68 : ¬ 0 ≤ m := fun zz9 => c68 ((nI_leI (a := 0) (b := m) (by omega) (by omega)).mpr zz9)
          exfalso; omega
set_option maxRecDepth 10000 in
set_option maxHeartbeats 4000000 in
theorem c_X9_drawn_n {h : pm_H} {xi : Nat → Int32} {xl : Nat → Int64} {xc : Nat → Option Nat} {XA : Nat → Nat → Int32} {XB : Nat → Nat → Int64} {c : Int32} {s : Int64} {cn : Nat} {C : Nat → sp_Cs} (hCC : x_CC h xi xc cn C) (hci : pm_ci c cn = none) : pm_Cv e_X9_drawn [.ref 1, .int c, .long s] (pmX h xi xl xc XA XB) (.int (-1)) (pmX h xi xl xc XA XB) := by
  refine pm_enter rfl (Nat.le_of_ble_eq_true rfl) ?_
  show pm_V e_X9_drawn 0 [some (.ref 1), some (.int c), some (.long s), none, none] [] (pmX h xi xl xc XA XB) (0, 0) _
  refine r_aload_0 d_X9_drawn_0 ?_
  refine r_iload_1 d_X9_drawn_1 ?_
  refine r_V1 d_X9_drawn_2 (c_X9_casterAt_no hCC.1 hci) rfl rfl rfl ⟨rfl, rfl⟩ (Nat.le_of_ble_eq_true rfl) ?_
  refine r_astoreN_4 d_X9_drawn_5 (Nat.le_of_ble_eq_true rfl) (fun w hw => by cases hw <;> rfl) ?_
  refine r_aloadN_4 d_X9_drawn_7 ?_
  refine r_ifnonnullN d_X9_drawn_9 ?_
  refine r_push d_X9_drawn_12 ?_
  refine r_ireturn d_X9_drawn_13 ⟨_, rfl, rfl⟩ ?_
  exact ⟨rfl, rfl⟩
set_option maxRecDepth 10000 in
set_option maxHeartbeats 4000000 in
theorem c_X9_drawn {h : pm_H} {xi : Nat → Int32} {xl : Nat → Int64} {xc : Nat → Option Nat} {XA : Nat → Nat → Int32} {XB : Nat → Nat → Int64} {j : Nat} {s : Int64} {cn : Nat} {C : Nat → sp_Cs} (hCC : x_CC h xi xc cn C) (hj : j < cn) : pm_Cv e_X9_drawn [.ref 1, .int (nI j), .long s] (pmX h xi xl xc XA XB) (.int (nI (sp_draw (C j).1 (C j).2.1 (C j).2.2.1 (C j).2.2.2.1 (C j).2.2.2.2.1 (C j).2.2.2.2.2 s).1)) (pmX h xi (vp_updL xl 3 (sp_draw (C j).1 (C j).2.1 (C j).2.2.1 (C j).2.2.2.1 (C j).2.2.2.2.1 (C j).2.2.2.2.2 s).2) xc XA XB) := by
  have hA : pm_Cv e_X9_casterAt [.ref 1, .int (nI j)] (pmX h xi xl xc XA XB) (.ref (68 + j)) (pmX h xi xl xc XA XB) := c_X9_casterAt hCC hj
  have hcs := (hCC.2.2 j hj).2
  generalize C j = q9 at hcs ⊢
  obtain ⟨kd, n, k, f, lo, hi⟩ := q9
  have hll : ∀ x y : Int64, vp_updL (vp_updL xl 3 x) 3 y = vp_updL xl 3 y := fun x y => pm_luu xl 3 x y
  change pm_cs h (68 + j) kd n k f lo hi at hcs
  rcases hcs with ⟨e, hcell⟩ | ⟨e, hcell⟩ | ⟨e, e1, e2, ok, hcell⟩ | ⟨e, ok, hcell⟩
  ·
    subst e
    have hcell := (pmX_ne (h := h) (xi := xi) (xl := xl) (xc := xc) (XA := XA) (XB := XB) (a := 68 + j) (by omega)).trans hcell
    have hd9 : sp_draw 0 n k f lo hi s = (7, s) := by unfold sp_draw; rw [if_pos rfl]
    change pm_Cv _ _ _ (.int (nI (sp_draw 0 n k f lo hi s).1)) (pmX h xi (vp_updL xl 3 (sp_draw 0 n k f lo hi s).2) xc XA XB)
    rw [hd9]
    refine pm_enter rfl (Nat.le_of_ble_eq_true rfl) ?_
    show pm_V e_X9_drawn 0 [some (.ref 1), some (.int (nI j)), some (.long s), none, none] [] (pmX h xi xl xc XA XB) (0, 0) _
    have hcell2 : (pmX h xi (vp_updL xl 3 s) xc XA XB).2 (68 + j) = _ := (pmX_ne (by omega)).trans ((pmX_ne (by omega)).symm.trans hcell)
    refine r_aload_0 d_X9_drawn_0 ?_
    refine r_iload_1 d_X9_drawn_1 ?_
    refine r_V1 d_X9_drawn_2 hA rfl rfl rfl ⟨rfl, rfl⟩ (Nat.le_of_ble_eq_true rfl) ?_
    refine r_astore_4 d_X9_drawn_5 (Nat.le_of_ble_eq_true rfl) (fun w hw => by cases hw <;> rfl) ?_
    refine r_aload_4 d_X9_drawn_7 ?_
    refine r_ifnonnull d_X9_drawn_9 ?_
    refine r_aload_0 d_X9_drawn_14 ?_
    refine r_get d_X9_drawn_15 s9_seed rfl rfl ?_
    refine r_lload_2 d_X9_drawn_18 ?_
    refine r_V1v d_X9_drawn_19 (c_X5_begin (s := xl 3) rfl) rfl rfl rfl ⟨rfl, rfl⟩ (Nat.le_of_ble_eq_true rfl) ?_
    rw [pmX_12]
    refine r_aload_4 d_X9_drawn_22 ?_
    refine r_aload_0 d_X9_drawn_24 ?_
    refine r_get d_X9_drawn_25 s9_seed rfl rfl ?_
    refine r_V1 d_X9_drawn_28_1 c_X1_castLine hcell2 rfl rfl ⟨rfl, rfl⟩ (Nat.le_of_ble_eq_true rfl) ?_
    refine r_ireturn d_X9_drawn_31 ⟨_, rfl, rfl⟩ ?_
    exact ⟨rfl, rfl⟩
  ·
    subst e
    have hcell := (pmX_ne (h := h) (xi := xi) (xl := xl) (xc := xc) (XA := XA) (XB := XB) (a := 68 + j) (by omega)).trans hcell
    have hd9 : sp_draw 2 n k f lo hi s = ((sp_coin (sp_un (sp_seed s) 8)), (sp_seed s)) := by unfold sp_draw; rw [if_neg (by decide), if_pos rfl]
    change pm_Cv _ _ _ (.int (nI (sp_draw 2 n k f lo hi s).1)) (pmX h xi (vp_updL xl 3 (sp_draw 2 n k f lo hi s).2) xc XA XB)
    rw [hd9]
    refine pm_enter rfl (Nat.le_of_ble_eq_true rfl) ?_
    show pm_V e_X9_drawn 0 [some (.ref 1), some (.int (nI j)), some (.long s), none, none] [] (pmX h xi xl xc XA XB) (0, 0) _
    have hcell2 : (pmX h xi (vp_updL xl 3 s) xc XA XB).2 (68 + j) = _ := (pmX_ne (by omega)).trans ((pmX_ne (by omega)).symm.trans hcell)
    refine r_aload_0 d_X9_drawn_0 ?_
    refine r_iload_1 d_X9_drawn_1 ?_
    refine r_V1 d_X9_drawn_2 hA rfl rfl rfl ⟨rfl, rfl⟩ (Nat.le_of_ble_eq_true rfl) ?_
    refine r_astore_4 d_X9_drawn_5 (Nat.le_of_ble_eq_true rfl) (fun w hw => by cases hw <;> rfl) ?_
    refine r_aload_4 d_X9_drawn_7 ?_
    refine r_ifnonnull d_X9_drawn_9 ?_
    refine r_aload_0 d_X9_drawn_14 ?_
    refine r_get d_X9_drawn_15 s9_seed rfl rfl ?_
    refine r_lload_2 d_X9_drawn_18 ?_
    refine r_V1v d_X9_drawn_19 (c_X5_begin (s := xl 3) rfl) rfl rfl rfl ⟨rfl, rfl⟩ (Nat.le_of_ble_eq_true rfl) ?_
    rw [pmX_12]
    refine r_aload_4 d_X9_drawn_22 ?_
    refine r_aload_0 d_X9_drawn_24 ?_
    refine r_get d_X9_drawn_25 s9_seed rfl rfl ?_
    refine r_V1 d_X9_drawn_28_2 (c_X2_castLine (s := s) rfl) hcell2 rfl rfl ⟨rfl, rfl⟩ (Nat.le_of_ble_eq_true rfl) ?_
    rw [pmX_12, hll]
    refine r_ireturn d_X9_drawn_31 ⟨_, rfl, rfl⟩ ?_
    exact ⟨rfl, rfl⟩
  ·
    subst e
    subst e1 e2
    have hcell := (pmX_ne (h := h) (xi := xi) (xl := xl) (xc := xc) (XA := XA) (XB := XB) (a := 68 + j) (by omega)).trans hcell
    have hd9 : sp_draw 1 n k f 1 59 s = (((sp_cl k f 1 59 3 n s).1 / k), (sp_cl k f 1 59 3 n s).2) := by unfold sp_draw; rw [if_neg (by decide), if_neg (by decide)]
    change pm_Cv _ _ _ (.int (nI (sp_draw 1 n k f 1 59 s).1)) (pmX h xi (vp_updL xl 3 (sp_draw 1 n k f 1 59 s).2) xc XA XB)
    rw [hd9]
    refine pm_enter rfl (Nat.le_of_ble_eq_true rfl) ?_
    show pm_V e_X9_drawn 0 [some (.ref 1), some (.int (nI j)), some (.long s), none, none] [] (pmX h xi xl xc XA XB) (0, 0) _
    have hcell2 : (pmX h xi (vp_updL xl 3 s) xc XA XB).2 (68 + j) = _ := (pmX_ne (by omega)).trans ((pmX_ne (by omega)).symm.trans hcell)
    refine r_aload_0 d_X9_drawn_0 ?_
    refine r_iload_1 d_X9_drawn_1 ?_
    refine r_V1 d_X9_drawn_2 hA rfl rfl rfl ⟨rfl, rfl⟩ (Nat.le_of_ble_eq_true rfl) ?_
    refine r_astore_4 d_X9_drawn_5 (Nat.le_of_ble_eq_true rfl) (fun w hw => by cases hw <;> rfl) ?_
    refine r_aload_4 d_X9_drawn_7 ?_
    refine r_ifnonnull d_X9_drawn_9 ?_
    refine r_aload_0 d_X9_drawn_14 ?_
    refine r_get d_X9_drawn_15 s9_seed rfl rfl ?_
    refine r_lload_2 d_X9_drawn_18 ?_
    refine r_V1v d_X9_drawn_19 (c_X5_begin (s := xl 3) rfl) rfl rfl rfl ⟨rfl, rfl⟩ (Nat.le_of_ble_eq_true rfl) ?_
    rw [pmX_12]
    refine r_aload_4 d_X9_drawn_22 ?_
    refine r_aload_0 d_X9_drawn_24 ?_
    refine r_get d_X9_drawn_25 s9_seed rfl rfl ?_
    refine r_V1 d_X9_drawn_28_6 (c_X6_castLine (s := s) (pm_sk_of6 hcell2) ok (by omega) rfl) hcell2 rfl rfl ⟨rfl, rfl⟩ (Nat.le_of_ble_eq_true rfl) ?_
    rw [pmX_12, hll]
    refine r_ireturn d_X9_drawn_31 ⟨_, rfl, rfl⟩ ?_
    exact ⟨rfl, rfl⟩
  ·
    subst e
    have hcell := (pmX_ne (h := h) (xi := xi) (xl := xl) (xc := xc) (XA := XA) (XB := XB) (a := 68 + j) (by omega)).trans hcell
    have hd9 : sp_draw 3 n k f lo hi s = (((sp_cl k f lo hi 3 n s).1 / k), (sp_cl k f lo hi 3 n s).2) := by unfold sp_draw; rw [if_neg (by decide), if_neg (by decide)]
    change pm_Cv _ _ _ (.int (nI (sp_draw 3 n k f lo hi s).1)) (pmX h xi (vp_updL xl 3 (sp_draw 3 n k f lo hi s).2) xc XA XB)
    rw [hd9]
    refine pm_enter rfl (Nat.le_of_ble_eq_true rfl) ?_
    show pm_V e_X9_drawn 0 [some (.ref 1), some (.int (nI j)), some (.long s), none, none] [] (pmX h xi xl xc XA XB) (0, 0) _
    have hcell2 : (pmX h xi (vp_updL xl 3 s) xc XA XB).2 (68 + j) = _ := (pmX_ne (by omega)).trans ((pmX_ne (by omega)).symm.trans hcell)
    refine r_aload_0 d_X9_drawn_0 ?_
    refine r_iload_1 d_X9_drawn_1 ?_
    refine r_V1 d_X9_drawn_2 hA rfl rfl rfl ⟨rfl, rfl⟩ (Nat.le_of_ble_eq_true rfl) ?_
    refine r_astore_4 d_X9_drawn_5 (Nat.le_of_ble_eq_true rfl) (fun w hw => by cases hw <;> rfl) ?_
    refine r_aload_4 d_X9_drawn_7 ?_
    refine r_ifnonnull d_X9_drawn_9 ?_
    refine r_aload_0 d_X9_drawn_14 ?_
    refine r_get d_X9_drawn_15 s9_seed rfl rfl ?_
    refine r_lload_2 d_X9_drawn_18 ?_
    refine r_V1v d_X9_drawn_19 (c_X5_begin (s := xl 3) rfl) rfl rfl rfl ⟨rfl, rfl⟩ (Nat.le_of_ble_eq_true rfl) ?_
    rw [pmX_12]
    refine r_aload_4 d_X9_drawn_22 ?_
    refine r_aload_0 d_X9_drawn_24 ?_
    refine r_get d_X9_drawn_25 s9_seed rfl rfl ?_
    refine r_V1 d_X9_drawn_28_7 (c_X6_castLine (s := s) (pm_sk_of7 hcell2) ok (by omega) rfl) hcell2 rfl rfl ⟨rfl, rfl⟩ (Nat.le_of_ble_eq_true rfl) ?_
    rw [pmX_12, hll]
    refine r_ireturn d_X9_drawn_31 ⟨_, rfl, rfl⟩ ?_
    exact ⟨rfl, rfl⟩
