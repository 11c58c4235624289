set_option maxRecDepth 10000 in
set_option maxHeartbeats 4000000 in
theorem lp_X9_digest {h : pm_H} {xi : Nat → Int32} {xl : Nat → Int64} {xc : Nat → Option Nat} {XA : Nat → Nat → Int32} {XB : Nat → Nat → Int64} {cn : Nat} {C : Nat → sp_Cs} (hCC : x_CC h xi xc cn C) {F : Option Value → pm_H → Prop} {b : Nat × Nat} (K : ∀ o, pm_V e_X9_digest 54 [some (.ref 1), some (.long (sp_dc C cn 17)), none, some (.int (nI cn)), o] [] (pmX h xi xl xc XA XB) b F) : ∀ (d i : Nat), i + d = cn → ∀ o, pm_V e_X9_digest 6 [some (.ref 1), some (.long (sp_dc C i 17)), none, some (.int (nI i)), o] [] (pmX h xi xl xc XA XB) b F := by
  obtain ⟨hcn, hn10, hC⟩ := hCC
  intro d
  induction d with
  | zero =>
    intro i hid o
    obtain rfl : i = cn := by omega
    refine r_iload_3 d_X9_digest_6 ?_
    refine r_aload_0 d_X9_digest_7 ?_
    refine r_get d_X9_digest_8 s9_casterCount rfl rfl ?_
    rw [hcn]
    refine r_icmp_ge d_X9_digest_11 (fun c11 => ?_) (fun c11 => ?_)
    · -- taken at 11
      have c11 : i ≤ i := (nI_leI (a := i) (b := i) (by omega) (by omega)).mp c11
      exact K _
    · -- not taken at 11
      have c11 : ¬ i ≤ i := fun zz9 => c11 ((nI_leI (a := i) (b := i) (by omega) (by omega)).mpr zz9)
      exfalso; omega
  | succ d ih =>
    intro i hid o
    obtain ⟨hxi, hcs⟩ := hC i (by omega)
    have ih9 := ih (i + 1) (by omega)
    rw [show sp_dc C (i + 1) 17 = sp_df (fun w => sp_tell (C i) (nI w)) 4 (sp_dc C i 17) from rfl, sp_df4] at ih9
    generalize sp_dc C i 17 = x9 at ih9 ⊢
    generalize C i = q9 at hcs ih9
    obtain ⟨kd, n, k, f, lo, hi⟩ := q9
    change pm_cs h (68 + i) kd n k f lo hi at hcs
    rcases hcs with ⟨e, z⟩ | ⟨e, z⟩ | ⟨e, e1, e2, ok, z⟩ | ⟨e, ok, z⟩
    · subst e
      have z9 := (pmX_ne (h := h) (xi := xi) (xl := xl) (xc := xc) (XA := XA) (XB := XB) (a := 68 + i) (by omega)).trans z
      refine r_iload_3 d_X9_digest_6 ?_
      refine r_aload_0 d_X9_digest_7 ?_
      refine r_get d_X9_digest_8 s9_casterCount rfl rfl ?_
      rw [hcn]
      refine r_icmp_ge d_X9_digest_11 (fun c11 => ?_) (fun c11 => ?_)
      · -- taken at 11
        have c11 : cn ≤ i := (nI_leI (a := cn) (b := i) (by omega) (by omega)).mp c11
        exfalso; omega
      · -- not taken at 11
        have c11 : ¬ cn ≤ i := fun zz9 => c11 ((nI_leI (a := cn) (b := i) (by omega) (by omega)).mpr zz9)
        refine r_push (v := nI 0) d_X9_digest_14 ?_
        refine r_istore_4 d_X9_digest_15 (Nat.le_of_ble_eq_true rfl) (fun w hw => by cases hw <;> rfl) ?_
        refine r_iload_4 d_X9_digest_17 ?_
        refine r_push (v := nI 3) d_X9_digest_19 ?_
        refine r_icmp_gt d_X9_digest_20 (fun c20 => absurd c20 (by decide)) (fun c20 => ?_)
        clear c20
        refine r_pushl d_X9_digest_23 ?_
        refine r_lload_1 d_X9_digest_26 ?_
        refine r_lmul d_X9_digest_27 ?_
        refine r_aload_0 d_X9_digest_28 ?_
        refine r_get d_X9_digest_29 s9_casters rfl rfl ?_
        refine r_iload_3 d_X9_digest_32 ?_
        refine r_aaldRX1 d_X9_digest_33 rfl (pm_ixN (by omega) (by omega)) ?_
        rw [hxi]
        change pm_V _ _ _ (.ref (68 + i) :: _) _ _ _
        refine r_iload_4 d_X9_digest_34 ?_
        refine r_V1 d_X9_digest_36_1 c_X1_tell z9 rfl rfl ⟨rfl, rfl⟩ (Nat.le_of_ble_eq_true rfl) ?_
        refine r_i2l d_X9_digest_39 ?_
        refine r_ladd d_X9_digest_40 ?_
        rw [← sp_d1_eq]
        refine r_lstore_1 d_X9_digest_41 (Nat.le_of_ble_eq_true rfl) (fun w hw => by cases hw <;> rfl) ?_
        refine r_iinc_4 d_X9_digest_42 (Nat.le_of_ble_eq_true rfl) (fun w hw => by cases hw <;> rfl) ?_
        rw [show nI 0 + 1 = nI 1 from rfl]
        refine r_goto d_X9_digest_45 ?_
        refine r_iload_4 d_X9_digest_17 ?_
        refine r_push (v := nI 3) d_X9_digest_19 ?_
        refine r_icmp_gt d_X9_digest_20 (fun c20 => absurd c20 (by decide)) (fun c20 => ?_)
        clear c20
        refine r_pushl d_X9_digest_23 ?_
        refine r_lload_1 d_X9_digest_26 ?_
        refine r_lmul d_X9_digest_27 ?_
        refine r_aload_0 d_X9_digest_28 ?_
        refine r_get d_X9_digest_29 s9_casters rfl rfl ?_
        refine r_iload_3 d_X9_digest_32 ?_
        refine r_aaldRX1 d_X9_digest_33 rfl (pm_ixN (by omega) (by omega)) ?_
        rw [hxi]
        change pm_V _ _ _ (.ref (68 + i) :: _) _ _ _
        refine r_iload_4 d_X9_digest_34 ?_
        refine r_V1 d_X9_digest_36_1 c_X1_tell z9 rfl rfl ⟨rfl, rfl⟩ (Nat.le_of_ble_eq_true rfl) ?_
        refine r_i2l d_X9_digest_39 ?_
        refine r_ladd d_X9_digest_40 ?_
        rw [← sp_d1_eq]
        refine r_lstore_1 d_X9_digest_41 (Nat.le_of_ble_eq_true rfl) (fun w hw => by cases hw <;> rfl) ?_
        refine r_iinc_4 d_X9_digest_42 (Nat.le_of_ble_eq_true rfl) (fun w hw => by cases hw <;> rfl) ?_
        rw [show nI 1 + 1 = nI 2 from rfl]
        refine r_goto d_X9_digest_45 ?_
        refine r_iload_4 d_X9_digest_17 ?_
        refine r_push (v := nI 3) d_X9_digest_19 ?_
        refine r_icmp_gt d_X9_digest_20 (fun c20 => absurd c20 (by decide)) (fun c20 => ?_)
        clear c20
        refine r_pushl d_X9_digest_23 ?_
        refine r_lload_1 d_X9_digest_26 ?_
        refine r_lmul d_X9_digest_27 ?_
        refine r_aload_0 d_X9_digest_28 ?_
        refine r_get d_X9_digest_29 s9_casters rfl rfl ?_
        refine r_iload_3 d_X9_digest_32 ?_
        refine r_aaldRX1 d_X9_digest_33 rfl (pm_ixN (by omega) (by omega)) ?_
        rw [hxi]
        change pm_V _ _ _ (.ref (68 + i) :: _) _ _ _
        refine r_iload_4 d_X9_digest_34 ?_
        refine r_V1 d_X9_digest_36_1 c_X1_tell z9 rfl rfl ⟨rfl, rfl⟩ (Nat.le_of_ble_eq_true rfl) ?_
        refine r_i2l d_X9_digest_39 ?_
        refine r_ladd d_X9_digest_40 ?_
        rw [← sp_d1_eq]
        refine r_lstore_1 d_X9_digest_41 (Nat.le_of_ble_eq_true rfl) (fun w hw => by cases hw <;> rfl) ?_
        refine r_iinc_4 d_X9_digest_42 (Nat.le_of_ble_eq_true rfl) (fun w hw => by cases hw <;> rfl) ?_
        rw [show nI 2 + 1 = nI 3 from rfl]
        refine r_goto d_X9_digest_45 ?_
        refine r_iload_4 d_X9_digest_17 ?_
        refine r_push (v := nI 3) d_X9_digest_19 ?_
        refine r_icmp_gt d_X9_digest_20 (fun c20 => absurd c20 (by decide)) (fun c20 => ?_)
        clear c20
        refine r_pushl d_X9_digest_23 ?_
        refine r_lload_1 d_X9_digest_26 ?_
        refine r_lmul d_X9_digest_27 ?_
        refine r_aload_0 d_X9_digest_28 ?_
        refine r_get d_X9_digest_29 s9_casters rfl rfl ?_
        refine r_iload_3 d_X9_digest_32 ?_
        refine r_aaldRX1 d_X9_digest_33 rfl (pm_ixN (by omega) (by omega)) ?_
        rw [hxi]
        change pm_V _ _ _ (.ref (68 + i) :: _) _ _ _
        refine r_iload_4 d_X9_digest_34 ?_
        refine r_V1 d_X9_digest_36_1 c_X1_tell z9 rfl rfl ⟨rfl, rfl⟩ (Nat.le_of_ble_eq_true rfl) ?_
        refine r_i2l d_X9_digest_39 ?_
        refine r_ladd d_X9_digest_40 ?_
        rw [← sp_d1_eq]
        refine r_lstore_1 d_X9_digest_41 (Nat.le_of_ble_eq_true rfl) (fun w hw => by cases hw <;> rfl) ?_
        refine r_iinc_4 d_X9_digest_42 (Nat.le_of_ble_eq_true rfl) (fun w hw => by cases hw <;> rfl) ?_
        rw [show nI 3 + 1 = nI 4 from rfl]
        refine r_goto d_X9_digest_45 ?_
        refine r_iload_4 d_X9_digest_17 ?_
        refine r_push (v := nI 3) d_X9_digest_19 ?_
        refine r_icmp_gt d_X9_digest_20 (fun c20 => ?_) (fun c20 => absurd (by decide) c20)
        clear c20
        refine r_iinc_3 d_X9_digest_48 (Nat.le_of_ble_eq_true rfl) (fun w hw => by cases hw <;> rfl) ?_
        rw [nI_1]
        refine r_goto d_X9_digest_51 ?_
        exact ih9 _
    · subst e
      have z9 := (pmX_ne (h := h) (xi := xi) (xl := xl) (xc := xc) (XA := XA) (XB := XB) (a := 68 + i) (by omega)).trans z
      refine r_iload_3 d_X9_digest_6 ?_
      refine r_aload_0 d_X9_digest_7 ?_
      refine r_get d_X9_digest_8 s9_casterCount rfl rfl ?_
      rw [hcn]
      refine r_icmp_ge d_X9_digest_11 (fun c11 => ?_) (fun c11 => ?_)
      · -- taken at 11
        have c11 : cn ≤ i := (nI_leI (a := cn) (b := i) (by omega) (by omega)).mp c11
        exfalso; omega
      · -- not taken at 11
        have c11 : ¬ cn ≤ i := fun zz9 => c11 ((nI_leI (a := cn) (b := i) (by omega) (by omega)).mpr zz9)
        refine r_push (v := nI 0) d_X9_digest_14 ?_
        refine r_istore_4 d_X9_digest_15 (Nat.le_of_ble_eq_true rfl) (fun w hw => by cases hw <;> rfl) ?_
        refine r_iload_4 d_X9_digest_17 ?_
        refine r_push (v := nI 3) d_X9_digest_19 ?_
        refine r_icmp_gt d_X9_digest_20 (fun c20 => absurd c20 (by decide)) (fun c20 => ?_)
        clear c20
        refine r_pushl d_X9_digest_23 ?_
        refine r_lload_1 d_X9_digest_26 ?_
        refine r_lmul d_X9_digest_27 ?_
        refine r_aload_0 d_X9_digest_28 ?_
        refine r_get d_X9_digest_29 s9_casters rfl rfl ?_
        refine r_iload_3 d_X9_digest_32 ?_
        refine r_aaldRX1 d_X9_digest_33 rfl (pm_ixN (by omega) (by omega)) ?_
        rw [hxi]
        change pm_V _ _ _ (.ref (68 + i) :: _) _ _ _
        refine r_iload_4 d_X9_digest_34 ?_
        refine r_V1 d_X9_digest_36_2 c_X2_tell z9 rfl rfl ⟨rfl, rfl⟩ (Nat.le_of_ble_eq_true rfl) ?_
        refine r_i2l d_X9_digest_39 ?_
        refine r_ladd d_X9_digest_40 ?_
        rw [← sp_d1_eq]
        refine r_lstore_1 d_X9_digest_41 (Nat.le_of_ble_eq_true rfl) (fun w hw => by cases hw <;> rfl) ?_
        refine r_iinc_4 d_X9_digest_42 (Nat.le_of_ble_eq_true rfl) (fun w hw => by cases hw <;> rfl) ?_
        rw [show nI 0 + 1 = nI 1 from rfl]
        refine r_goto d_X9_digest_45 ?_
        refine r_iload_4 d_X9_digest_17 ?_
        refine r_push (v := nI 3) d_X9_digest_19 ?_
        refine r_icmp_gt d_X9_digest_20 (fun c20 => absurd c20 (by decide)) (fun c20 => ?_)
        clear c20
        refine r_pushl d_X9_digest_23 ?_
        refine r_lload_1 d_X9_digest_26 ?_
        refine r_lmul d_X9_digest_27 ?_
        refine r_aload_0 d_X9_digest_28 ?_
        refine r_get d_X9_digest_29 s9_casters rfl rfl ?_
        refine r_iload_3 d_X9_digest_32 ?_
        refine r_aaldRX1 d_X9_digest_33 rfl (pm_ixN (by omega) (by omega)) ?_
        rw [hxi]
        change pm_V _ _ _ (.ref (68 + i) :: _) _ _ _
        refine r_iload_4 d_X9_digest_34 ?_
        refine r_V1 d_X9_digest_36_2 c_X2_tell z9 rfl rfl ⟨rfl, rfl⟩ (Nat.le_of_ble_eq_true rfl) ?_
        refine r_i2l d_X9_digest_39 ?_
        refine r_ladd d_X9_digest_40 ?_
        rw [← sp_d1_eq]
        refine r_lstore_1 d_X9_digest_41 (Nat.le_of_ble_eq_true rfl) (fun w hw => by cases hw <;> rfl) ?_
        refine r_iinc_4 d_X9_digest_42 (Nat.le_of_ble_eq_true rfl) (fun w hw => by cases hw <;> rfl) ?_
        rw [show nI 1 + 1 = nI 2 from rfl]
        refine r_goto d_X9_digest_45 ?_
        refine r_iload_4 d_X9_digest_17 ?_
        refine r_push (v := nI 3) d_X9_digest_19 ?_
        refine r_icmp_gt d_X9_digest_20 (fun c20 => absurd c20 (by decide)) (fun c20 => ?_)
        clear c20
        refine r_pushl d_X9_digest_23 ?_
        refine r_lload_1 d_X9_digest_26 ?_
        refine r_lmul d_X9_digest_27 ?_
        refine r_aload_0 d_X9_digest_28 ?_
        refine r_get d_X9_digest_29 s9_casters rfl rfl ?_
        refine r_iload_3 d_X9_digest_32 ?_
        refine r_aaldRX1 d_X9_digest_33 rfl (pm_ixN (by omega) (by omega)) ?_
        rw [hxi]
        change pm_V _ _ _ (.ref (68 + i) :: _) _ _ _
        refine r_iload_4 d_X9_digest_34 ?_
        refine r_V1 d_X9_digest_36_2 c_X2_tell z9 rfl rfl ⟨rfl, rfl⟩ (Nat.le_of_ble_eq_true rfl) ?_
        refine r_i2l d_X9_digest_39 ?_
        refine r_ladd d_X9_digest_40 ?_
        rw [← sp_d1_eq]
        refine r_lstore_1 d_X9_digest_41 (Nat.le_of_ble_eq_true rfl) (fun w hw => by cases hw <;> rfl) ?_
        refine r_iinc_4 d_X9_digest_42 (Nat.le_of_ble_eq_true rfl) (fun w hw => by cases hw <;> rfl) ?_
        rw [show nI 2 + 1 = nI 3 from rfl]
        refine r_goto d_X9_digest_45 ?_
        refine r_iload_4 d_X9_digest_17 ?_
        refine r_push (v := nI 3) d_X9_digest_19 ?_
        refine r_icmp_gt d_X9_digest_20 (fun c20 => absurd c20 (by decide)) (fun c20 => ?_)
        clear c20
        refine r_pushl d_X9_digest_23 ?_
        refine r_lload_1 d_X9_digest_26 ?_
        refine r_lmul d_X9_digest_27 ?_
        refine r_aload_0 d_X9_digest_28 ?_
        refine r_get d_X9_digest_29 s9_casters rfl rfl ?_
        refine r_iload_3 d_X9_digest_32 ?_
        refine r_aaldRX1 d_X9_digest_33 rfl (pm_ixN (by omega) (by omega)) ?_
        rw [hxi]
        change pm_V _ _ _ (.ref (68 + i) :: _) _ _ _
        refine r_iload_4 d_X9_digest_34 ?_
        refine r_V1 d_X9_digest_36_2 c_X2_tell z9 rfl rfl ⟨rfl, rfl⟩ (Nat.le_of_ble_eq_true rfl) ?_
        refine r_i2l d_X9_digest_39 ?_
        refine r_ladd d_X9_digest_40 ?_
        rw [← sp_d1_eq]
        refine r_lstore_1 d_X9_digest_41 (Nat.le_of_ble_eq_true rfl) (fun w hw => by cases hw <;> rfl) ?_
        refine r_iinc_4 d_X9_digest_42 (Nat.le_of_ble_eq_true rfl) (fun w hw => by cases hw <;> rfl) ?_
        rw [show nI 3 + 1 = nI 4 from rfl]
        refine r_goto d_X9_digest_45 ?_
        refine r_iload_4 d_X9_digest_17 ?_
        refine r_push (v := nI 3) d_X9_digest_19 ?_
        refine r_icmp_gt d_X9_digest_20 (fun c20 => ?_) (fun c20 => absurd (by decide) c20)
        clear c20
        refine r_iinc_3 d_X9_digest_48 (Nat.le_of_ble_eq_true rfl) (fun w hw => by cases hw <;> rfl) ?_
        rw [nI_1]
        refine r_goto d_X9_digest_51 ?_
        exact ih9 _
    · subst e
      have z9 := (pmX_ne (h := h) (xi := xi) (xl := xl) (xc := xc) (XA := XA) (XB := XB) (a := 68 + i) (by omega)).trans z
      refine r_iload_3 d_X9_digest_6 ?_
      refine r_aload_0 d_X9_digest_7 ?_
      refine r_get d_X9_digest_8 s9_casterCount rfl rfl ?_
      rw [hcn]
      refine r_icmp_ge d_X9_digest_11 (fun c11 => ?_) (fun c11 => ?_)
      · -- taken at 11
        have c11 : cn ≤ i := (nI_leI (a := cn) (b := i) (by omega) (by omega)).mp c11
        exfalso; omega
      · -- not taken at 11
        have c11 : ¬ cn ≤ i := fun zz9 => c11 ((nI_leI (a := cn) (b := i) (by omega) (by omega)).mpr zz9)
        refine r_push (v := nI 0) d_X9_digest_14 ?_
        refine r_istore_4 d_X9_digest_15 (Nat.le_of_ble_eq_true rfl) (fun w hw => by cases hw <;> rfl) ?_
        refine r_iload_4 d_X9_digest_17 ?_
        refine r_push (v := nI 3) d_X9_digest_19 ?_
        refine r_icmp_gt d_X9_digest_20 (fun c20 => absurd c20 (by decide)) (fun c20 => ?_)
        clear c20
        refine r_pushl d_X9_digest_23 ?_
        refine r_lload_1 d_X9_digest_26 ?_
        refine r_lmul d_X9_digest_27 ?_
        refine r_aload_0 d_X9_digest_28 ?_
        refine r_get d_X9_digest_29 s9_casters rfl rfl ?_
        refine r_iload_3 d_X9_digest_32 ?_
        refine r_aaldRX1 d_X9_digest_33 rfl (pm_ixN (by omega) (by omega)) ?_
        rw [hxi]
        change pm_V _ _ _ (.ref (68 + i) :: _) _ _ _
        refine r_iload_4 d_X9_digest_34 ?_
        refine r_V1 d_X9_digest_36_6 (c_X6_tell6 (lo := lo) (hi := hi) z9) z9 rfl rfl ⟨rfl, rfl⟩ (Nat.le_of_ble_eq_true rfl) ?_
        refine r_i2l d_X9_digest_39 ?_
        refine r_ladd d_X9_digest_40 ?_
        rw [← sp_d1_eq]
        refine r_lstore_1 d_X9_digest_41 (Nat.le_of_ble_eq_true rfl) (fun w hw => by cases hw <;> rfl) ?_
        refine r_iinc_4 d_X9_digest_42 (Nat.le_of_ble_eq_true rfl) (fun w hw => by cases hw <;> rfl) ?_
        rw [show nI 0 + 1 = nI 1 from rfl]
        refine r_goto d_X9_digest_45 ?_
        refine r_iload_4 d_X9_digest_17 ?_
        refine r_push (v := nI 3) d_X9_digest_19 ?_
        refine r_icmp_gt d_X9_digest_20 (fun c20 => absurd c20 (by decide)) (fun c20 => ?_)
        clear c20
        refine r_pushl d_X9_digest_23 ?_
        refine r_lload_1 d_X9_digest_26 ?_
        refine r_lmul d_X9_digest_27 ?_
        refine r_aload_0 d_X9_digest_28 ?_
        refine r_get d_X9_digest_29 s9_casters rfl rfl ?_
        refine r_iload_3 d_X9_digest_32 ?_
        refine r_aaldRX1 d_X9_digest_33 rfl (pm_ixN (by omega) (by omega)) ?_
        rw [hxi]
        change pm_V _ _ _ (.ref (68 + i) :: _) _ _ _
        refine r_iload_4 d_X9_digest_34 ?_
        refine r_V1 d_X9_digest_36_6 (c_X6_tell6 (lo := lo) (hi := hi) z9) z9 rfl rfl ⟨rfl, rfl⟩ (Nat.le_of_ble_eq_true rfl) ?_
        refine r_i2l d_X9_digest_39 ?_
        refine r_ladd d_X9_digest_40 ?_
        rw [← sp_d1_eq]
        refine r_lstore_1 d_X9_digest_41 (Nat.le_of_ble_eq_true rfl) (fun w hw => by cases hw <;> rfl) ?_
        refine r_iinc_4 d_X9_digest_42 (Nat.le_of_ble_eq_true rfl) (fun w hw => by cases hw <;> rfl) ?_
        rw [show nI 1 + 1 = nI 2 from rfl]
        refine r_goto d_X9_digest_45 ?_
        refine r_iload_4 d_X9_digest_17 ?_
        refine r_push (v := nI 3) d_X9_digest_19 ?_
        refine r_icmp_gt d_X9_digest_20 (fun c20 => absurd c20 (by decide)) (fun c20 => ?_)
        clear c20
        refine r_pushl d_X9_digest_23 ?_
        refine r_lload_1 d_X9_digest_26 ?_
        refine r_lmul d_X9_digest_27 ?_
        refine r_aload_0 d_X9_digest_28 ?_
        refine r_get d_X9_digest_29 s9_casters rfl rfl ?_
        refine r_iload_3 d_X9_digest_32 ?_
        refine r_aaldRX1 d_X9_digest_33 rfl (pm_ixN (by omega) (by omega)) ?_
        rw [hxi]
        change pm_V _ _ _ (.ref (68 + i) :: _) _ _ _
        refine r_iload_4 d_X9_digest_34 ?_
        refine r_V1 d_X9_digest_36_6 (c_X6_tell6 (lo := lo) (hi := hi) z9) z9 rfl rfl ⟨rfl, rfl⟩ (Nat.le_of_ble_eq_true rfl) ?_
        refine r_i2l d_X9_digest_39 ?_
        refine r_ladd d_X9_digest_40 ?_
        rw [← sp_d1_eq]
        refine r_lstore_1 d_X9_digest_41 (Nat.le_of_ble_eq_true rfl) (fun w hw => by cases hw <;> rfl) ?_
        refine r_iinc_4 d_X9_digest_42 (Nat.le_of_ble_eq_true rfl) (fun w hw => by cases hw <;> rfl) ?_
        rw [show nI 2 + 1 = nI 3 from rfl]
        refine r_goto d_X9_digest_45 ?_
        refine r_iload_4 d_X9_digest_17 ?_
        refine r_push (v := nI 3) d_X9_digest_19 ?_
        refine r_icmp_gt d_X9_digest_20 (fun c20 => absurd c20 (by decide)) (fun c20 => ?_)
        clear c20
        refine r_pushl d_X9_digest_23 ?_
        refine r_lload_1 d_X9_digest_26 ?_
        refine r_lmul d_X9_digest_27 ?_
        refine r_aload_0 d_X9_digest_28 ?_
        refine r_get d_X9_digest_29 s9_casters rfl rfl ?_
        refine r_iload_3 d_X9_digest_32 ?_
        refine r_aaldRX1 d_X9_digest_33 rfl (pm_ixN (by omega) (by omega)) ?_
        rw [hxi]
        change pm_V _ _ _ (.ref (68 + i) :: _) _ _ _
        refine r_iload_4 d_X9_digest_34 ?_
        refine r_V1 d_X9_digest_36_6 (c_X6_tell6 (lo := lo) (hi := hi) z9) z9 rfl rfl ⟨rfl, rfl⟩ (Nat.le_of_ble_eq_true rfl) ?_
        refine r_i2l d_X9_digest_39 ?_
        refine r_ladd d_X9_digest_40 ?_
        rw [← sp_d1_eq]
        refine r_lstore_1 d_X9_digest_41 (Nat.le_of_ble_eq_true rfl) (fun w hw => by cases hw <;> rfl) ?_
        refine r_iinc_4 d_X9_digest_42 (Nat.le_of_ble_eq_true rfl) (fun w hw => by cases hw <;> rfl) ?_
        rw [show nI 3 + 1 = nI 4 from rfl]
        refine r_goto d_X9_digest_45 ?_
        refine r_iload_4 d_X9_digest_17 ?_
        refine r_push (v := nI 3) d_X9_digest_19 ?_
        refine r_icmp_gt d_X9_digest_20 (fun c20 => ?_) (fun c20 => absurd (by decide) c20)
        clear c20
        refine r_iinc_3 d_X9_digest_48 (Nat.le_of_ble_eq_true rfl) (fun w hw => by cases hw <;> rfl) ?_
        rw [nI_1]
        refine r_goto d_X9_digest_51 ?_
        exact ih9 _
    · subst e
      have z9 := (pmX_ne (h := h) (xi := xi) (xl := xl) (xc := xc) (XA := XA) (XB := XB) (a := 68 + i) (by omega)).trans z
      refine r_iload_3 d_X9_digest_6 ?_
      refine r_aload_0 d_X9_digest_7 ?_
      refine r_get d_X9_digest_8 s9_casterCount rfl rfl ?_
      rw [hcn]
      refine r_icmp_ge d_X9_digest_11 (fun c11 => ?_) (fun c11 => ?_)
      · -- taken at 11
        have c11 : cn ≤ i := (nI_leI (a := cn) (b := i) (by omega) (by omega)).mp c11
        exfalso; omega
      · -- not taken at 11
        have c11 : ¬ cn ≤ i := fun zz9 => c11 ((nI_leI (a := cn) (b := i) (by omega) (by omega)).mpr zz9)
        refine r_push (v := nI 0) d_X9_digest_14 ?_
        refine r_istore_4 d_X9_digest_15 (Nat.le_of_ble_eq_true rfl) (fun w hw => by cases hw <;> rfl) ?_
        refine r_iload_4 d_X9_digest_17 ?_
        refine r_push (v := nI 3) d_X9_digest_19 ?_
        refine r_icmp_gt d_X9_digest_20 (fun c20 => absurd c20 (by decide)) (fun c20 => ?_)
        clear c20
        refine r_pushl d_X9_digest_23 ?_
        refine r_lload_1 d_X9_digest_26 ?_
        refine r_lmul d_X9_digest_27 ?_
        refine r_aload_0 d_X9_digest_28 ?_
        refine r_get d_X9_digest_29 s9_casters rfl rfl ?_
        refine r_iload_3 d_X9_digest_32 ?_
        refine r_aaldRX1 d_X9_digest_33 rfl (pm_ixN (by omega) (by omega)) ?_
        rw [hxi]
        change pm_V _ _ _ (.ref (68 + i) :: _) _ _ _
        refine r_iload_4 d_X9_digest_34 ?_
        refine r_V1 d_X9_digest_36_7 (c_X6_tell7 z9) z9 rfl rfl ⟨rfl, rfl⟩ (Nat.le_of_ble_eq_true rfl) ?_
        refine r_i2l d_X9_digest_39 ?_
        refine r_ladd d_X9_digest_40 ?_
        rw [← sp_d1_eq]
        refine r_lstore_1 d_X9_digest_41 (Nat.le_of_ble_eq_true rfl) (fun w hw => by cases hw <;> rfl) ?_
        refine r_iinc_4 d_X9_digest_42 (Nat.le_of_ble_eq_true rfl) (fun w hw => by cases hw <;> rfl) ?_
        rw [show nI 0 + 1 = nI 1 from rfl]
        refine r_goto d_X9_digest_45 ?_
        refine r_iload_4 d_X9_digest_17 ?_
        refine r_push (v := nI 3) d_X9_digest_19 ?_
        refine r_icmp_gt d_X9_digest_20 (fun c20 => absurd c20 (by decide)) (fun c20 => ?_)
        clear c20
        refine r_pushl d_X9_digest_23 ?_
        refine r_lload_1 d_X9_digest_26 ?_
        refine r_lmul d_X9_digest_27 ?_
        refine r_aload_0 d_X9_digest_28 ?_
        refine r_get d_X9_digest_29 s9_casters rfl rfl ?_
        refine r_iload_3 d_X9_digest_32 ?_
        refine r_aaldRX1 d_X9_digest_33 rfl (pm_ixN (by omega) (by omega)) ?_
        rw [hxi]
        change pm_V _ _ _ (.ref (68 + i) :: _) _ _ _
        refine r_iload_4 d_X9_digest_34 ?_
        refine r_V1 d_X9_digest_36_7 (c_X6_tell7 z9) z9 rfl rfl ⟨rfl, rfl⟩ (Nat.le_of_ble_eq_true rfl) ?_
        refine r_i2l d_X9_digest_39 ?_
        refine r_ladd d_X9_digest_40 ?_
        rw [← sp_d1_eq]
        refine r_lstore_1 d_X9_digest_41 (Nat.le_of_ble_eq_true rfl) (fun w hw => by cases hw <;> rfl) ?_
        refine r_iinc_4 d_X9_digest_42 (Nat.le_of_ble_eq_true rfl) (fun w hw => by cases hw <;> rfl) ?_
        rw [show nI 1 + 1 = nI 2 from rfl]
        refine r_goto d_X9_digest_45 ?_
        refine r_iload_4 d_X9_digest_17 ?_
        refine r_push (v := nI 3) d_X9_digest_19 ?_
        refine r_icmp_gt d_X9_digest_20 (fun c20 => absurd c20 (by decide)) (fun c20 => ?_)
        clear c20
        refine r_pushl d_X9_digest_23 ?_
        refine r_lload_1 d_X9_digest_26 ?_
        refine r_lmul d_X9_digest_27 ?_
        refine r_aload_0 d_X9_digest_28 ?_
        refine r_get d_X9_digest_29 s9_casters rfl rfl ?_
        refine r_iload_3 d_X9_digest_32 ?_
        refine r_aaldRX1 d_X9_digest_33 rfl (pm_ixN (by omega) (by omega)) ?_
        rw [hxi]
        change pm_V _ _ _ (.ref (68 + i) :: _) _ _ _
        refine r_iload_4 d_X9_digest_34 ?_
        refine r_V1 d_X9_digest_36_7 (c_X6_tell7 z9) z9 rfl rfl ⟨rfl, rfl⟩ (Nat.le_of_ble_eq_true rfl) ?_
        refine r_i2l d_X9_digest_39 ?_
        refine r_ladd d_X9_digest_40 ?_
        rw [← sp_d1_eq]
        refine r_lstore_1 d_X9_digest_41 (Nat.le_of_ble_eq_true rfl) (fun w hw => by cases hw <;> rfl) ?_
        refine r_iinc_4 d_X9_digest_42 (Nat.le_of_ble_eq_true rfl) (fun w hw => by cases hw <;> rfl) ?_
        rw [show nI 2 + 1 = nI 3 from rfl]
        refine r_goto d_X9_digest_45 ?_
        refine r_iload_4 d_X9_digest_17 ?_
        refine r_push (v := nI 3) d_X9_digest_19 ?_
        refine r_icmp_gt d_X9_digest_20 (fun c20 => absurd c20 (by decide)) (fun c20 => ?_)
        clear c20
        refine r_pushl d_X9_digest_23 ?_
        refine r_lload_1 d_X9_digest_26 ?_
        refine r_lmul d_X9_digest_27 ?_
        refine r_aload_0 d_X9_digest_28 ?_
        refine r_get d_X9_digest_29 s9_casters rfl rfl ?_
        refine r_iload_3 d_X9_digest_32 ?_
        refine r_aaldRX1 d_X9_digest_33 rfl (pm_ixN (by omega) (by omega)) ?_
        rw [hxi]
        change pm_V _ _ _ (.ref (68 + i) :: _) _ _ _
        refine r_iload_4 d_X9_digest_34 ?_
        refine r_V1 d_X9_digest_36_7 (c_X6_tell7 z9) z9 rfl rfl ⟨rfl, rfl⟩ (Nat.le_of_ble_eq_true rfl) ?_
        refine r_i2l d_X9_digest_39 ?_
        refine r_ladd d_X9_digest_40 ?_
        rw [← sp_d1_eq]
        refine r_lstore_1 d_X9_digest_41 (Nat.le_of_ble_eq_true rfl) (fun w hw => by cases hw <;> rfl) ?_
        refine r_iinc_4 d_X9_digest_42 (Nat.le_of_ble_eq_true rfl) (fun w hw => by cases hw <;> rfl) ?_
        rw [show nI 3 + 1 = nI 4 from rfl]
        refine r_goto d_X9_digest_45 ?_
        refine r_iload_4 d_X9_digest_17 ?_
        refine r_push (v := nI 3) d_X9_digest_19 ?_
        refine r_icmp_gt d_X9_digest_20 (fun c20 => ?_) (fun c20 => absurd (by decide) c20)
        clear c20
        refine r_iinc_3 d_X9_digest_48 (Nat.le_of_ble_eq_true rfl) (fun w hw => by cases hw <;> rfl) ?_
        rw [nI_1]
        refine r_goto d_X9_digest_51 ?_
        exact ih9 _
set_option maxRecDepth 10000 in
set_option maxHeartbeats 4000000 in
theorem lq_X9_digest {h : pm_H} {xi : Nat → Int32} {xl : Nat → Int64} {xc : Nat → Option Nat} {XA : Nat → Nat → Int32} {XB : Nat → Nat → Int64} {x : Int64} {f : Nat} (hf : f < 8) {F : Option Value → pm_H → Prop} {b : Nat × Nat} (K : ∀ o, pm_V e_X9_digest 98 [some (.ref 1), some (.long (sp_df (XA (21 + 2 * f)) 6 x)), none, some (.int (nI f)), o] [] (pmX h xi xl xc XA XB) b F) : ∀ (d i : Nat), i + d = 6 → pm_V e_X9_digest 65 [some (.ref 1), some (.long (sp_df (XA (21 + 2 * f)) i x)), none, some (.int (nI f)), some (.int (nI i))] [] (pmX h xi xl xc XA XB) b F := by
  intro d
  induction d with
  | zero =>
    intro i hid
    obtain rfl : i = 6 := by omega
    refine r_iload_4 d_X9_digest_65 ?_
    refine r_push (v := nI 6) d_X9_digest_67 ?_
    refine r_icmp_ge d_X9_digest_69 (fun c69 => ?_) (fun c69 => absurd (by decide) c69)
    clear c69
    exact K _
  | succ d ih =>
    intro i hid
    refine r_iload_4 d_X9_digest_65 ?_
    refine r_push (v := nI 6) d_X9_digest_67 ?_
    refine r_icmp_ge d_X9_digest_69 (fun c69 => ?_) (fun c69 => ?_)
    · -- taken at 69
      have c69 : 6 ≤ i := (nI_leI (a := 6) (b := i) (by omega) (by omega)).mp c69
      exfalso; omega
    · -- not taken at 69
      have c69 : ¬ 6 ≤ i := fun zz9 => c69 ((nI_leI (a := 6) (b := i) (by omega) (by omega)).mpr zz9)
      refine r_pushl d_X9_digest_72 ?_
      refine r_lload_1 d_X9_digest_75 ?_
      refine r_lmul d_X9_digest_76 ?_
      refine r_aload_0 d_X9_digest_77 ?_
      refine r_get d_X9_digest_78 s9_figures rfl rfl ?_
      refine r_iload_3 d_X9_digest_81 ?_
      refine r_aaldRX3 d_X9_digest_82 rfl (pm_ixN (by omega) (by omega)) ?_
      rw [show x_fa f = some (20 + 2 * f) from if_pos hf]
      change pm_V _ _ _ (.ref (20 + 2 * f) :: _) _ _ _
      refine r_get d_X9_digest_83 s3_lines (xf_o hf) rfl ?_
      refine r_iload_4 d_X9_digest_86 ?_
      refine r_iald d_X9_digest_88 (xf_l hf) (pm_ixN (by omega) (by omega)) ?_
      refine r_i2l d_X9_digest_89 ?_
      refine r_ladd d_X9_digest_90 ?_
      rw [← sp_d1_eq]
      refine r_lstore_1 d_X9_digest_91 (Nat.le_of_ble_eq_true rfl) (fun w hw => by cases hw <;> rfl) ?_
      refine r_iinc_4 d_X9_digest_92 (Nat.le_of_ble_eq_true rfl) (fun w hw => by cases hw <;> rfl) ?_
      rw [nI_1]
      refine r_goto d_X9_digest_95 ?_
      have ih9 := ih (i + 1) (by omega)
      rw [sp_df_s] at ih9
      exact ih9
set_option maxRecDepth 10000 in
set_option maxHeartbeats 4000000 in
theorem lr_X9_digest {h : pm_H} {xi : Nat → Int32} {xl : Nat → Int64} {xc : Nat → Option Nat} {XA : Nat → Nat → Int32} {XB : Nat → Nat → Int64} {x : Int64} {F : Option Value → pm_H → Prop} {b : Nat × Nat} (K : ∀ o, pm_V e_X9_digest 104 [some (.ref 1), some (.long (sp_dg XA 8 x)), none, some (.int (nI 8)), o] [] (pmX h xi xl xc XA XB) b F) : ∀ (d f : Nat), f + d = 8 → ∀ o, pm_V e_X9_digest 56 [some (.ref 1), some (.long (sp_dg XA f x)), none, some (.int (nI f)), o] [] (pmX h xi xl xc XA XB) b F := by
  intro d
  induction d with
  | zero =>
    intro f hid o
    obtain rfl : f = 8 := by omega
    refine r_iload_3 d_X9_digest_56 ?_
    refine r_push (v := nI 8) d_X9_digest_57 ?_
    refine r_icmp_ge d_X9_digest_59 (fun c59 => ?_) (fun c59 => absurd (by decide) c59)
    clear c59
    exact K _
  | succ d ih =>
    intro f hid o
    have ih9 := ih (f + 1) (by omega)
    rw [show sp_dg XA (f + 1) x = sp_df (XA (21 + 2 * f)) 6 (sp_dg XA f x) from rfl] at ih9
    refine r_iload_3 d_X9_digest_56 ?_
    refine r_push (v := nI 8) d_X9_digest_57 ?_
    refine r_icmp_ge d_X9_digest_59 (fun c59 => ?_) (fun c59 => ?_)
    · -- taken at 59
      have c59 : 8 ≤ f := (nI_leI (a := 8) (b := f) (by omega) (by omega)).mp c59
      exfalso; omega
    · -- not taken at 59
      have c59 : ¬ 8 ≤ f := fun zz9 => c59 ((nI_leI (a := 8) (b := f) (by omega) (by omega)).mpr zz9)
      refine r_push (v := nI 0) d_X9_digest_62 ?_
      refine r_istore_4 d_X9_digest_63 (Nat.le_of_ble_eq_true rfl) (fun w hw => by cases hw <;> rfl) ?_
      refine lq_X9_digest (x := (sp_dg XA f x)) (by omega) (fun o => ?_) 6 0 (by omega)
      refine r_iinc_3 d_X9_digest_98 (Nat.le_of_ble_eq_true rfl) (fun w hw => by cases hw <;> rfl) ?_
      rw [nI_1]
      refine r_goto d_X9_digest_101 ?_
      exact ih9 _
set_option maxRecDepth 10000 in
set_option maxHeartbeats 4000000 in
theorem ls_X9_digest {h : pm_H} {xi : Nat → Int32} {xl : Nat → Int64} {xc : Nat → Option Nat} {XA : Nat → Nat → Int32} {XB : Nat → Nat → Int64} {x : Int64} {r z : Nat} (hr : r < 4) (hz : xi (3 + r) = nI z) (hz64 : z ≤ 64) {F : Option Value → pm_H → Prop} {b : Nat × Nat} (K : ∀ o, pm_V e_X9_digest 171 [some (.ref 1), some (.long (sp_df (XA (37 + 2 * r)) z x)), none, some (.int (nI r)), o] [] (pmX h xi xl xc XA XB) b F) : ∀ (d i : Nat), i + d = z → pm_V e_X9_digest 131 [some (.ref 1), some (.long (sp_df (XA (37 + 2 * r)) i x)), none, some (.int (nI r)), some (.int (nI i))] [] (pmX h xi xl xc XA XB) b F := by
  intro d
  induction d with
  | zero =>
    intro i hid
    obtain rfl : i = z := by omega
    refine r_iload_4 d_X9_digest_131 ?_
    refine r_aload_0 d_X9_digest_133 ?_
    refine r_get d_X9_digest_134 s9_rows rfl rfl ?_
    refine r_iload_3 d_X9_digest_137 ?_
    refine r_aaldRX0 d_X9_digest_138 rfl (pm_ixN (by omega) (by omega)) ?_
    rw [show x_ra r = some (36 + 2 * r) from if_pos hr]
    change pm_V _ _ _ (.ref (36 + 2 * r) :: _) _ _ _
    refine r_get d_X9_digest_139 s0_size (x_row hr hz) rfl ?_
    refine r_icmp_ge d_X9_digest_142 (fun c142 => ?_) (fun c142 => ?_)
    · -- taken at 142
      have c142 : i ≤ i := (nI_leI (a := i) (b := i) (by omega) (by omega)).mp c142
      exact K _
    · -- not taken at 142
      have c142 : ¬ i ≤ i := fun zz9 => c142 ((nI_leI (a := i) (b := i) (by omega) (by omega)).mpr zz9)
      exfalso; omega
  | succ d ih =>
    intro i hid
    refine r_iload_4 d_X9_digest_131 ?_
    refine r_aload_0 d_X9_digest_133 ?_
    refine r_get d_X9_digest_134 s9_rows rfl rfl ?_
    refine r_iload_3 d_X9_digest_137 ?_
    refine r_aaldRX0 d_X9_digest_138 rfl (pm_ixN (by omega) (by omega)) ?_
    rw [show x_ra r = some (36 + 2 * r) from if_pos hr]
    change pm_V _ _ _ (.ref (36 + 2 * r) :: _) _ _ _
    refine r_get d_X9_digest_139 s0_size (x_row hr hz) rfl ?_
    refine r_icmp_ge d_X9_digest_142 (fun c142 => ?_) (fun c142 => ?_)
    · -- taken at 142
      have c142 : z ≤ i := (nI_leI (a := z) (b := i) (by omega) (by omega)).mp c142
      exfalso; omega
    · -- not taken at 142
      have c142 : ¬ z ≤ i := fun zz9 => c142 ((nI_leI (a := z) (b := i) (by omega) (by omega)).mpr zz9)
      refine r_pushl d_X9_digest_145 ?_
      refine r_lload_1 d_X9_digest_148 ?_
      refine r_lmul d_X9_digest_149 ?_
      refine r_aload_0 d_X9_digest_150 ?_
      refine r_get d_X9_digest_151 s9_rows rfl rfl ?_
      refine r_iload_3 d_X9_digest_154 ?_
      refine r_aaldRX0 d_X9_digest_155 rfl (pm_ixN (by omega) (by omega)) ?_
      rw [show x_ra r = some (36 + 2 * r) from if_pos hr]
      change pm_V _ _ _ (.ref (36 + 2 * r) :: _) _ _ _
      refine r_get d_X9_digest_156 s0_bytes (x_row hr hz) rfl ?_
      refine r_iload_4 d_X9_digest_159 ?_
      refine r_bald d_X9_digest_161 (xr_l hr) (pm_ixN (by omega) (by omega)) ?_
      refine r_i2l d_X9_digest_162 ?_
      refine r_ladd d_X9_digest_163 ?_
      rw [← sp_d1_eq]
      refine r_lstore_1 d_X9_digest_164 (Nat.le_of_ble_eq_true rfl) (fun w hw => by cases hw <;> rfl) ?_
      refine r_iinc_4 d_X9_digest_165 (Nat.le_of_ble_eq_true rfl) (fun w hw => by cases hw <;> rfl) ?_
      rw [nI_1]
      refine r_goto d_X9_digest_168 ?_
      have ih9 := ih (i + 1) (by omega)
      rw [sp_df_s] at ih9
      exact ih9
set_option maxRecDepth 10000 in
set_option maxHeartbeats 4000000 in
theorem lt_X9_digest {h : pm_H} {xi : Nat → Int32} {xl : Nat → Int64} {xc : Nat → Option Nat} {XA : Nat → Nat → Int32} {XB : Nat → Nat → Int64} {rz : Nat → Option Nat} (hrz : x_rz xi rz) {x : Int64} {F : Option Value → pm_H → Prop} {b : Nat × Nat} (K : ∀ o, pm_V e_X9_digest 177 [some (.ref 1), some (.long (sp_dr rz (fun r => XA (37 + 2 * r)) 4 x)), none, some (.int (nI 4)), o] [] (pmX h xi xl xc XA XB) b F) : ∀ (d r : Nat), r + d = 4 → ∀ o, pm_V e_X9_digest 106 [some (.ref 1), some (.long (sp_dr rz (fun r => XA (37 + 2 * r)) r x)), none, some (.int (nI r)), o] [] (pmX h xi xl xc XA XB) b F := by
  intro d
  induction d with
  | zero =>
    intro r hid o
    obtain rfl : r = 4 := by omega
    refine r_iload_3 d_X9_digest_106 ?_
    refine r_push (v := nI 4) d_X9_digest_107 ?_
    refine r_icmp_ge d_X9_digest_108 (fun c108 => ?_) (fun c108 => absurd (by decide) c108)
    clear c108
    exact K _
  | succ d ih =>
    intro r hid o
    have hr : r < 4 := by omega
    have ih9 := ih (r + 1) (by omega)
    cases hx : rz r with
    | none =>
      have hz := x_rz_n hrz (by omega) hx
      rw [sp_dr_n hx] at ih9
      refine r_iload_3 d_X9_digest_106 ?_
      refine r_push (v := nI 4) d_X9_digest_107 ?_
      refine r_icmp_ge d_X9_digest_108 (fun c108 => ?_) (fun c108 => ?_)
      · -- taken at 108
        have c108 : 4 ≤ r := (nI_leI (a := 4) (b := r) (by omega) (by omega)).mp c108
        exfalso; omega
      · -- not taken at 108
        have c108 : ¬ 4 ≤ r := fun zz9 => c108 ((nI_leI (a := 4) (b := r) (by omega) (by omega)).mpr zz9)
        refine r_pushl d_X9_digest_111 ?_
        refine r_lload_1 d_X9_digest_114 ?_
        refine r_lmul d_X9_digest_115 ?_
        refine r_aload_0 d_X9_digest_116 ?_
        refine r_get d_X9_digest_117 s9_rows rfl rfl ?_
        refine r_iload_3 d_X9_digest_120 ?_
        refine r_aaldRX0 d_X9_digest_121 rfl (pm_ixN (by omega) (by omega)) ?_
        rw [show x_ra r = some (36 + 2 * r) from if_pos hr]
        change pm_V _ _ _ (.ref (36 + 2 * r) :: _) _ _ _
        refine r_get d_X9_digest_122 s0_size (x_row hr hz) rfl ?_
        refine r_i2l d_X9_digest_125 ?_
        refine r_ladd d_X9_digest_126 ?_
        rw [← sp_d1_eq]
        refine r_lstore_1 d_X9_digest_127 (Nat.le_of_ble_eq_true rfl) (fun w hw => by cases hw <;> rfl) ?_
        refine r_push (v := nI 0) d_X9_digest_128 ?_
        refine r_istore_4 d_X9_digest_129 (Nat.le_of_ble_eq_true rfl) (fun w hw => by cases hw <;> rfl) ?_
        refine r_iload_4 d_X9_digest_131 ?_
        refine r_aload_0 d_X9_digest_133 ?_
        refine r_get d_X9_digest_134 s9_rows rfl rfl ?_
        refine r_iload_3 d_X9_digest_137 ?_
        refine r_aaldRX0 d_X9_digest_138 rfl (pm_ixN (by omega) (by omega)) ?_
        rw [show x_ra r = some (36 + 2 * r) from if_pos hr]
        change pm_V _ _ _ (.ref (36 + 2 * r) :: _) _ _ _
        refine r_get d_X9_digest_139 s0_size (x_row hr hz) rfl ?_
        refine r_icmp_ge d_X9_digest_142 (fun c142 => ?_) (fun c142 => ?_)
        · -- taken at 142
          refine r_iinc_3 d_X9_digest_171 (Nat.le_of_ble_eq_true rfl) (fun w hw => by cases hw <;> rfl) ?_
          rw [nI_1]
          refine r_goto d_X9_digest_174 ?_
          exact ih9 _
        · -- not taken at 142
          exact absurd (show (-1 : Int32) ≤ nI 0 by decide) c142
    | some z =>
      obtain ⟨hz, hz64⟩ := x_rz_s hrz (by omega) hx
      rw [sp_dr_s hx] at ih9
      refine r_iload_3 d_X9_digest_106 ?_
      refine r_push (v := nI 4) d_X9_digest_107 ?_
      refine r_icmp_ge d_X9_digest_108 (fun c108 => ?_) (fun c108 => ?_)
      · -- taken at 108
        have c108 : 4 ≤ r := (nI_leI (a := 4) (b := r) (by omega) (by omega)).mp c108
        exfalso; omega
      · -- not taken at 108
        have c108 : ¬ 4 ≤ r := fun zz9 => c108 ((nI_leI (a := 4) (b := r) (by omega) (by omega)).mpr zz9)
        refine r_pushl d_X9_digest_111 ?_
        refine r_lload_1 d_X9_digest_114 ?_
        refine r_lmul d_X9_digest_115 ?_
        refine r_aload_0 d_X9_digest_116 ?_
        refine r_get d_X9_digest_117 s9_rows rfl rfl ?_
        refine r_iload_3 d_X9_digest_120 ?_
        refine r_aaldRX0 d_X9_digest_121 rfl (pm_ixN (by omega) (by omega)) ?_
        rw [show x_ra r = some (36 + 2 * r) from if_pos hr]
        change pm_V _ _ _ (.ref (36 + 2 * r) :: _) _ _ _
        refine r_get d_X9_digest_122 s0_size (x_row hr hz) rfl ?_
        refine r_i2l d_X9_digest_125 ?_
        refine r_ladd d_X9_digest_126 ?_
        rw [← sp_d1_eq]
        refine r_lstore_1 d_X9_digest_127 (Nat.le_of_ble_eq_true rfl) (fun w hw => by cases hw <;> rfl) ?_
        refine r_push (v := nI 0) d_X9_digest_128 ?_
        refine r_istore_4 d_X9_digest_129 (Nat.le_of_ble_eq_true rfl) (fun w hw => by cases hw <;> rfl) ?_
        refine ls_X9_digest hr hz hz64 (x := sp_d1 (sp_dr rz (fun r => XA (37 + 2 * r)) r x) (nI z)) (fun o => ?_) z 0 (by omega)
        refine r_iinc_3 d_X9_digest_171 (Nat.le_of_ble_eq_true rfl) (fun w hw => by cases hw <;> rfl) ?_
        rw [nI_1]
        refine r_goto d_X9_digest_174 ?_
        exact ih9 _
set_option maxRecDepth 10000 in
set_option maxHeartbeats 4000000 in
theorem c_X9_digest {h : pm_H} {xi : Nat → Int32} {xl : Nat → Int64} {xc : Nat → Option Nat} {XA : Nat → Nat → Int32} {XB : Nat → Nat → Int64} {cn : Nat} {C : Nat → sp_Cs} (hCC : x_CC h xi xc cn C) {rz : Nat → Option Nat} (hrz : x_rz xi rz) : pm_Cv e_X9_digest [.ref 1] (pmX h xi xl xc XA XB) (.long (sp_dr rz (fun r => XA (37 + 2 * r)) 4 (sp_dg XA 8 (sp_dc C cn 17)))) (pmX h xi xl xc XA XB) := by
  refine pm_enter rfl (Nat.le_of_ble_eq_true rfl) ?_
  show pm_V e_X9_digest 0 [some (.ref 1), none, none, none, none] [] (pmX h xi xl xc XA XB) (0, 0) _
  refine r_pushl d_X9_digest_0 ?_
  refine r_lstore_1 d_X9_digest_3 (Nat.le_of_ble_eq_true rfl) (fun w hw => by cases hw <;> rfl) ?_
  refine r_push (v := nI 0) d_X9_digest_4 ?_
  refine r_istore_3 d_X9_digest_5 (Nat.le_of_ble_eq_true rfl) (fun w hw => by cases hw <;> rfl) ?_
  refine lp_X9_digest hCC (fun o => ?_) cn 0 (by omega) none
  refine r_push (v := nI 0) d_X9_digest_54 ?_
  refine r_istore_3 d_X9_digest_55 (Nat.le_of_ble_eq_true rfl) (fun w hw => by cases hw <;> rfl) ?_
  refine lr_X9_digest (x := sp_dc C cn 17) (fun o => ?_) 8 0 (by omega) _
  refine r_push (v := nI 0) d_X9_digest_104 ?_
  refine r_istore_3 d_X9_digest_105 (Nat.le_of_ble_eq_true rfl) (fun w hw => by cases hw <;> rfl) ?_
  refine lt_X9_digest hrz (x := sp_dg XA 8 (sp_dc C cn 17)) (fun o => ?_) 4 0 (by omega) _
  refine r_lload_1 d_X9_digest_177 ?_
  refine r_lreturn d_X9_digest_178 rfl ?_
  exact ⟨rfl, rfl⟩
