theorem sp_in_num (x : Int32) : sp_in x 0 63 = sp_num x := by
  unfold sp_in sp_num
  refine decide_eq_decide.mpr ⟨fun h => ⟨h.1, Int32.lt_of_le_of_lt h.2 (by decide)⟩, fun h => ⟨h.1, ?_⟩⟩
  have h2 := h.2
  rw [Int32.lt_iff_toInt_lt] at h2
  rw [Int32.le_iff_toInt_le]
  rw [pm_t64] at h2
  rw [pm_t63]
  omega
theorem c_X10_inF {h : pm_H} {x : Int32} (hx : sp_num x = false) : pm_Cv e_X10_in [.int x, .int (nI 0), .int (nI 63)] h (.int (nI 0)) h := by
  have e := c_X10_in (h := h) (v := x) (lo := nI 0) (hi := nI 63)
  rw [show sp_in x (nI 0) (nI 63) = false from (sp_in_num x).trans hx] at e
  exact e
set_option maxRecDepth 10000 in
set_option maxHeartbeats 4000000 in
theorem lp_misfitsOf_0 {h : pm_H} {mi : Nat → Int32} {ml : Nat → Int64} {A : Nat → Nat → Int32} {B : Nat → Nat → Int64} {r z : Nat} (hr : r < 4) (hz : A 62 r = nI z) (hz64 : z ≤ 64) {F : Option Value → pm_H → Prop} {b : Nat × Nat} (K : ∀ o5 o6 o7, pm_V e_X10_misfitsOf 166 [some (.ref 44), some (.int (nI r)), some (.int (nI 0)), some (.int (nI (sp_ct (sp_mp 0 (fun q => A 63 (64 * r + q)) z) z))), some (.int (nI z)), o5, o6, o7] [] (pmM h mi ml A B) b F) : ∀ (d i : Nat), i + d = z → ∀ o5 o6 o7, pm_V e_X10_misfitsOf 5 [some (.ref 44), some (.int (nI r)), some (.int (nI 0)), some (.int (nI (sp_ct (sp_mp 0 (fun q => A 63 (64 * r + q)) z) i))), some (.int (nI i)), o5, o6, o7] [] (pmM h mi ml A B) b F := by
  intro d
  induction d with
  | zero =>
    intro i hi o5 o6 o7
    rw [show i = z by omega]
    refine r_iload_4 d_X10_misfitsOf_5 ?_
    refine r_aload_0 d_X10_misfitsOf_7 ?_
    refine r_get d_X10_misfitsOf_8 s10_sizes rfl rfl ?_
    refine r_iload_1 d_X10_misfitsOf_11 ?_
    refine r_iald d_X10_misfitsOf_12 rfl (pm_ixN (by omega) (by omega)) ?_
    rw [hz]
    refine r_icmp_ge d_X10_misfitsOf_13 (fun c13 => ?_) (fun c13 => ?_)
    · -- taken at 13
      have c13 : z ≤ z := (nI_leI (a := z) (b := z) (by omega) (by omega)).mp c13
      exact K _ _ _
    · -- not taken at 13
      have c13 : ¬ z ≤ z := fun zz9 => c13 ((nI_leI (a := z) (b := z) (by omega) (by omega)).mpr zz9)
      exfalso; omega
  | succ d ih =>
    intro i hi o5 o6 o7
    have key : ∀ c9 o5 o6 o7, c9 = pm_bl (sp_mp 0 (fun q => A 63 (64 * r + q)) z i) → pm_V e_X10_misfitsOf 160 [some (.ref 44), some (.int (nI r)), some (.int (nI 0)), some (.int (nI ((sp_ct (sp_mp 0 (fun q => A 63 (64 * r + q)) z) i) + c9))), some (.int (nI i)), o5, o6, o7] [] (pmM h mi ml A B) b F := by
      intro c9 o5 o6 o7 hc9
      rw [hc9, ← sp_ct_s]
      refine r_iinc_4 d_X10_misfitsOf_160 (Nat.le_of_ble_eq_true rfl) (fun w hw => by cases hw <;> rfl) ?_
      rw [nI_1]
      refine r_goto d_X10_misfitsOf_163 ?_
      exact ih (i + 1) (by omega) _ _ _
    have hct := sp_ct_le (sp_mp 0 (fun q => A 63 (64 * r + q)) z) i
    cases hx : sp_num (A 63 (64 * r + i)) with
    | false =>
      have e0 : sp_mp 0 (fun q => A 63 (64 * r + q)) z i = false := by show (sp_num (A 63 (64 * r + i)) && _) = false; rw [hx]; rfl
      refine r_iload_4 d_X10_misfitsOf_5 ?_
      refine r_aload_0 d_X10_misfitsOf_7 ?_
      refine r_get d_X10_misfitsOf_8 s10_sizes rfl rfl ?_
      refine r_iload_1 d_X10_misfitsOf_11 ?_
      refine r_iald d_X10_misfitsOf_12 rfl (pm_ixN (by omega) (by omega)) ?_
      rw [hz]
      refine r_icmp_ge d_X10_misfitsOf_13 (fun c13 => ?_) (fun c13 => ?_)
      · -- taken at 13
        have c13 : z ≤ i := (nI_leI (a := z) (b := i) (by omega) (by omega)).mp c13
        exfalso; omega
      · -- not taken at 13
        have c13 : ¬ z ≤ i := fun zz9 => c13 ((nI_leI (a := z) (b := i) (by omega) (by omega)).mpr zz9)
        refine r_aload_0 d_X10_misfitsOf_16 ?_
        refine r_iload_1 d_X10_misfitsOf_17 ?_
        refine r_iload_4 d_X10_misfitsOf_18 ?_
        refine r_V2 d_X10_misfitsOf_20 (c_X10_leaf hr (by omega)) rfl rfl rfl ⟨rfl, rfl⟩ (Nat.le_of_ble_eq_true rfl) ?_
        refine r_istore_5 d_X10_misfitsOf_23 (Nat.le_of_ble_eq_true rfl) (fun w hw => by cases hw <;> rfl) ?_
        refine r_iload_2 d_X10_misfitsOf_25 ?_
        refine r_push (v := nI 2) d_X10_misfitsOf_26 ?_
        refine r_icmp_ge d_X10_misfitsOf_27 (fun c27 => absurd c27 (by decide)) (fun c27 => ?_)
        clear c27
        refine r_iload_3 d_X10_misfitsOf_30 ?_
        refine r_iload_5 d_X10_misfitsOf_31 ?_
        refine r_push (v := nI 0) d_X10_misfitsOf_33 ?_
        refine r_push (v := nI 63) d_X10_misfitsOf_34 ?_
        refine r_S3 d_X10_misfitsOf_36 (c_X10_inF hx) ⟨rfl, rfl⟩ (Nat.le_of_ble_eq_true rfl) ?_
        refine r_if_eq d_X10_misfitsOf_39 (fun c39 => ?_) (fun c39 => absurd (by decide) c39)
        clear c39
        refine r_push (v := nI 0) d_X10_misfitsOf_65 ?_
        refine r_iadd d_X10_misfitsOf_66 ?_
        rw [nI_add]
        refine r_istore_3 d_X10_misfitsOf_67 (Nat.le_of_ble_eq_true rfl) (fun w hw => by cases hw <;> rfl) ?_
        refine r_goto d_X10_misfitsOf_68 ?_
        exact key 0 _ _ _ (by rw [e0]; rfl)
    | true =>
      obtain ⟨y, hy, hxy, hnb⟩ := sp_num_ex hx
      have e0 : sp_mp 0 (fun q => A 63 (64 * r + q)) z i = (y != i) := by show (sp_num (A 63 (64 * r + i)) && (sp_nb (A 63 (64 * r + i)) != _)) = _; rw [hx, hnb]; rfl
      refine r_iload_4 d_X10_misfitsOf_5 ?_
      refine r_aload_0 d_X10_misfitsOf_7 ?_
      refine r_get d_X10_misfitsOf_8 s10_sizes rfl rfl ?_
      refine r_iload_1 d_X10_misfitsOf_11 ?_
      refine r_iald d_X10_misfitsOf_12 rfl (pm_ixN (by omega) (by omega)) ?_
      rw [hz]
      refine r_icmp_ge d_X10_misfitsOf_13 (fun c13 => ?_) (fun c13 => ?_)
      · -- taken at 13
        have c13 : z ≤ i := (nI_leI (a := z) (b := i) (by omega) (by omega)).mp c13
        exfalso; omega
      · -- not taken at 13
        have c13 : ¬ z ≤ i := fun zz9 => c13 ((nI_leI (a := z) (b := i) (by omega) (by omega)).mpr zz9)
        refine r_aload_0 d_X10_misfitsOf_16 ?_
        refine r_iload_1 d_X10_misfitsOf_17 ?_
        refine r_iload_4 d_X10_misfitsOf_18 ?_
        refine r_V2 d_X10_misfitsOf_20 (c_X10_leaf hr (by omega)) rfl rfl rfl ⟨rfl, rfl⟩ (Nat.le_of_ble_eq_true rfl) ?_
        rw [hxy]
        refine r_istore_5 d_X10_misfitsOf_23 (Nat.le_of_ble_eq_true rfl) (fun w hw => by cases hw <;> rfl) ?_
        refine r_iload_2 d_X10_misfitsOf_25 ?_
        refine r_push (v := nI 2) d_X10_misfitsOf_26 ?_
        refine r_icmp_ge d_X10_misfitsOf_27 (fun c27 => absurd c27 (by decide)) (fun c27 => ?_)
        clear c27
        refine r_iload_3 d_X10_misfitsOf_30 ?_
        refine r_iload_5 d_X10_misfitsOf_31 ?_
        refine r_push (v := nI 0) d_X10_misfitsOf_33 ?_
        refine r_push (v := nI 63) d_X10_misfitsOf_34 ?_
        refine r_S3 d_X10_misfitsOf_36 (c_X10_inN (by omega) (by omega) (by omega)) ⟨rfl, rfl⟩ (Nat.le_of_ble_eq_true rfl) ?_
        refine r_if_eq d_X10_misfitsOf_39 (fun c39 => absurd c39 (by decide)) (fun c39 => ?_)
        clear c39
        refine r_iload_5 d_X10_misfitsOf_42 ?_
        refine r_iload_2 d_X10_misfitsOf_44 ?_
        refine r_if_ne d_X10_misfitsOf_45 (fun c45 => absurd (by decide) c45) (fun c45 => ?_)
        clear c45
        refine r_iload_4 d_X10_misfitsOf_48 ?_
        refine r_goto d_X10_misfitsOf_50 ?_
        refine r_icmp_eq d_X10_misfitsOf_58 (fun c58 => ?_) (fun c58 => ?_)
        · -- taken at 58
          have c58 : y = i := (nI_eq (a := y) (b := i) (by omega) (by omega)).mp c58
          refine r_push (v := nI 0) d_X10_misfitsOf_65 ?_
          refine r_iadd d_X10_misfitsOf_66 ?_
          rw [nI_add]
          refine r_istore_3 d_X10_misfitsOf_67 (Nat.le_of_ble_eq_true rfl) (fun w hw => by cases hw <;> rfl) ?_
          refine r_goto d_X10_misfitsOf_68 ?_
          first | exact key 0 _ _ _ (by rw [e0, c58]; simp [pm_bl]) | exact key 1 _ _ _ (by rw [e0]; simp [pm_bl, c58])
        · -- not taken at 58
          have c58 : ¬ y = i := fun zz9 => c58 ((nI_eq (a := y) (b := i) (by omega) (by omega)).mpr zz9)
          refine r_push (v := nI 1) d_X10_misfitsOf_61 ?_
          refine r_goto d_X10_misfitsOf_62 ?_
          refine r_iadd d_X10_misfitsOf_66 ?_
          rw [nI_add]
          refine r_istore_3 d_X10_misfitsOf_67 (Nat.le_of_ble_eq_true rfl) (fun w hw => by cases hw <;> rfl) ?_
          refine r_goto d_X10_misfitsOf_68 ?_
          first | exact key 0 _ _ _ (by rw [e0, c58]; simp [pm_bl]) | exact key 1 _ _ _ (by rw [e0]; simp [pm_bl, c58])
set_option maxRecDepth 10000 in
set_option maxHeartbeats 4000000 in
theorem lp_misfitsOf_1 {h : pm_H} {mi : Nat → Int32} {ml : Nat → Int64} {A : Nat → Nat → Int32} {B : Nat → Nat → Int64} {r z : Nat} (hr : r < 4) (hz : A 62 r = nI z) (hz64 : z ≤ 64) {F : Option Value → pm_H → Prop} {b : Nat × Nat} (K : ∀ o5 o6 o7, pm_V e_X10_misfitsOf 166 [some (.ref 44), some (.int (nI r)), some (.int (nI 1)), some (.int (nI (sp_ct (sp_mp 1 (fun q => A 63 (64 * r + q)) z) z))), some (.int (nI z)), o5, o6, o7] [] (pmM h mi ml A B) b F) : ∀ (d i : Nat), i + d = z → ∀ o5 o6 o7, pm_V e_X10_misfitsOf 5 [some (.ref 44), some (.int (nI r)), some (.int (nI 1)), some (.int (nI (sp_ct (sp_mp 1 (fun q => A 63 (64 * r + q)) z) i))), some (.int (nI i)), o5, o6, o7] [] (pmM h mi ml A B) b F := by
  intro d
  induction d with
  | zero =>
    intro i hi o5 o6 o7
    rw [show i = z by omega]
    refine r_iload_4 d_X10_misfitsOf_5 ?_
    refine r_aload_0 d_X10_misfitsOf_7 ?_
    refine r_get d_X10_misfitsOf_8 s10_sizes rfl rfl ?_
    refine r_iload_1 d_X10_misfitsOf_11 ?_
    refine r_iald d_X10_misfitsOf_12 rfl (pm_ixN (by omega) (by omega)) ?_
    rw [hz]
    refine r_icmp_ge d_X10_misfitsOf_13 (fun c13 => ?_) (fun c13 => ?_)
    · -- taken at 13
      have c13 : z ≤ z := (nI_leI (a := z) (b := z) (by omega) (by omega)).mp c13
      exact K _ _ _
    · -- not taken at 13
      have c13 : ¬ z ≤ z := fun zz9 => c13 ((nI_leI (a := z) (b := z) (by omega) (by omega)).mpr zz9)
      exfalso; omega
  | succ d ih =>
    intro i hi o5 o6 o7
    have key : ∀ c9 o5 o6 o7, c9 = pm_bl (sp_mp 1 (fun q => A 63 (64 * r + q)) z i) → pm_V e_X10_misfitsOf 160 [some (.ref 44), some (.int (nI r)), some (.int (nI 1)), some (.int (nI ((sp_ct (sp_mp 1 (fun q => A 63 (64 * r + q)) z) i) + c9))), some (.int (nI i)), o5, o6, o7] [] (pmM h mi ml A B) b F := by
      intro c9 o5 o6 o7 hc9
      rw [hc9, ← sp_ct_s]
      refine r_iinc_4 d_X10_misfitsOf_160 (Nat.le_of_ble_eq_true rfl) (fun w hw => by cases hw <;> rfl) ?_
      rw [nI_1]
      refine r_goto d_X10_misfitsOf_163 ?_
      exact ih (i + 1) (by omega) _ _ _
    have hct := sp_ct_le (sp_mp 1 (fun q => A 63 (64 * r + q)) z) i
    have htl := sp_turn_lt i (by omega)
    cases hx : sp_num (A 63 (64 * r + i)) with
    | false =>
      have e0 : sp_mp 1 (fun q => A 63 (64 * r + q)) z i = false := by show (sp_num (A 63 (64 * r + i)) && _) = false; rw [hx]; rfl
      refine r_iload_4 d_X10_misfitsOf_5 ?_
      refine r_aload_0 d_X10_misfitsOf_7 ?_
      refine r_get d_X10_misfitsOf_8 s10_sizes rfl rfl ?_
      refine r_iload_1 d_X10_misfitsOf_11 ?_
      refine r_iald d_X10_misfitsOf_12 rfl (pm_ixN (by omega) (by omega)) ?_
      rw [hz]
      refine r_icmp_ge d_X10_misfitsOf_13 (fun c13 => ?_) (fun c13 => ?_)
      · -- taken at 13
        have c13 : z ≤ i := (nI_leI (a := z) (b := i) (by omega) (by omega)).mp c13
        exfalso; omega
      · -- not taken at 13
        have c13 : ¬ z ≤ i := fun zz9 => c13 ((nI_leI (a := z) (b := i) (by omega) (by omega)).mpr zz9)
        refine r_aload_0 d_X10_misfitsOf_16 ?_
        refine r_iload_1 d_X10_misfitsOf_17 ?_
        refine r_iload_4 d_X10_misfitsOf_18 ?_
        refine r_V2 d_X10_misfitsOf_20 (c_X10_leaf hr (by omega)) rfl rfl rfl ⟨rfl, rfl⟩ (Nat.le_of_ble_eq_true rfl) ?_
        refine r_istore_5 d_X10_misfitsOf_23 (Nat.le_of_ble_eq_true rfl) (fun w hw => by cases hw <;> rfl) ?_
        refine r_iload_2 d_X10_misfitsOf_25 ?_
        refine r_push (v := nI 2) d_X10_misfitsOf_26 ?_
        refine r_icmp_ge d_X10_misfitsOf_27 (fun c27 => absurd c27 (by decide)) (fun c27 => ?_)
        clear c27
        refine r_iload_3 d_X10_misfitsOf_30 ?_
        refine r_iload_5 d_X10_misfitsOf_31 ?_
        refine r_push (v := nI 0) d_X10_misfitsOf_33 ?_
        refine r_push (v := nI 63) d_X10_misfitsOf_34 ?_
        refine r_S3 d_X10_misfitsOf_36 (c_X10_inF hx) ⟨rfl, rfl⟩ (Nat.le_of_ble_eq_true rfl) ?_
        refine r_if_eq d_X10_misfitsOf_39 (fun c39 => ?_) (fun c39 => absurd (by decide) c39)
        clear c39
        refine r_push (v := nI 0) d_X10_misfitsOf_65 ?_
        refine r_iadd d_X10_misfitsOf_66 ?_
        rw [nI_add]
        refine r_istore_3 d_X10_misfitsOf_67 (Nat.le_of_ble_eq_true rfl) (fun w hw => by cases hw <;> rfl) ?_
        refine r_goto d_X10_misfitsOf_68 ?_
        exact key 0 _ _ _ (by rw [e0]; rfl)
    | true =>
      obtain ⟨y, hy, hxy, hnb⟩ := sp_num_ex hx
      have e0 : sp_mp 1 (fun q => A 63 (64 * r + q)) z i = (y != (sp_turn i)) := by show (sp_num (A 63 (64 * r + i)) && (sp_nb (A 63 (64 * r + i)) != _)) = _; rw [hx, hnb]; rfl
      refine r_iload_4 d_X10_misfitsOf_5 ?_
      refine r_aload_0 d_X10_misfitsOf_7 ?_
      refine r_get d_X10_misfitsOf_8 s10_sizes rfl rfl ?_
      refine r_iload_1 d_X10_misfitsOf_11 ?_
      refine r_iald d_X10_misfitsOf_12 rfl (pm_ixN (by omega) (by omega)) ?_
      rw [hz]
      refine r_icmp_ge d_X10_misfitsOf_13 (fun c13 => ?_) (fun c13 => ?_)
      · -- taken at 13
        have c13 : z ≤ i := (nI_leI (a := z) (b := i) (by omega) (by omega)).mp c13
        exfalso; omega
      · -- not taken at 13
        have c13 : ¬ z ≤ i := fun zz9 => c13 ((nI_leI (a := z) (b := i) (by omega) (by omega)).mpr zz9)
        refine r_aload_0 d_X10_misfitsOf_16 ?_
        refine r_iload_1 d_X10_misfitsOf_17 ?_
        refine r_iload_4 d_X10_misfitsOf_18 ?_
        refine r_V2 d_X10_misfitsOf_20 (c_X10_leaf hr (by omega)) rfl rfl rfl ⟨rfl, rfl⟩ (Nat.le_of_ble_eq_true rfl) ?_
        rw [hxy]
        refine r_istore_5 d_X10_misfitsOf_23 (Nat.le_of_ble_eq_true rfl) (fun w hw => by cases hw <;> rfl) ?_
        refine r_iload_2 d_X10_misfitsOf_25 ?_
        refine r_push (v := nI 2) d_X10_misfitsOf_26 ?_
        refine r_icmp_ge d_X10_misfitsOf_27 (fun c27 => absurd c27 (by decide)) (fun c27 => ?_)
        clear c27
        refine r_iload_3 d_X10_misfitsOf_30 ?_
        refine r_iload_5 d_X10_misfitsOf_31 ?_
        refine r_push (v := nI 0) d_X10_misfitsOf_33 ?_
        refine r_push (v := nI 63) d_X10_misfitsOf_34 ?_
        refine r_S3 d_X10_misfitsOf_36 (c_X10_inN (by omega) (by omega) (by omega)) ⟨rfl, rfl⟩ (Nat.le_of_ble_eq_true rfl) ?_
        refine r_if_eq d_X10_misfitsOf_39 (fun c39 => absurd c39 (by decide)) (fun c39 => ?_)
        clear c39
        refine r_iload_5 d_X10_misfitsOf_42 ?_
        refine r_iload_2 d_X10_misfitsOf_44 ?_
        refine r_if_ne d_X10_misfitsOf_45 (fun c45 => ?_) (fun c45 => absurd c45 (by decide))
        clear c45
        refine r_iload_4 d_X10_misfitsOf_53 ?_
        refine r_S1 d_X10_misfitsOf_55 (c_X10_turned (by omega)) ⟨rfl, rfl⟩ (Nat.le_of_ble_eq_true rfl) ?_
        refine r_icmp_eq d_X10_misfitsOf_58 (fun c58 => ?_) (fun c58 => ?_)
        · -- taken at 58
          have c58 : y = (sp_turn i) := (nI_eq (a := y) (b := (sp_turn i)) (by omega) (by omega)).mp c58
          refine r_push (v := nI 0) d_X10_misfitsOf_65 ?_
          refine r_iadd d_X10_misfitsOf_66 ?_
          rw [nI_add]
          refine r_istore_3 d_X10_misfitsOf_67 (Nat.le_of_ble_eq_true rfl) (fun w hw => by cases hw <;> rfl) ?_
          refine r_goto d_X10_misfitsOf_68 ?_
          first | exact key 0 _ _ _ (by rw [e0, c58]; simp [pm_bl]) | exact key 1 _ _ _ (by rw [e0]; simp [pm_bl, c58])
        · -- not taken at 58
          have c58 : ¬ y = (sp_turn i) := fun zz9 => c58 ((nI_eq (a := y) (b := (sp_turn i)) (by omega) (by omega)).mpr zz9)
          refine r_push (v := nI 1) d_X10_misfitsOf_61 ?_
          refine r_goto d_X10_misfitsOf_62 ?_
          refine r_iadd d_X10_misfitsOf_66 ?_
          rw [nI_add]
          refine r_istore_3 d_X10_misfitsOf_67 (Nat.le_of_ble_eq_true rfl) (fun w hw => by cases hw <;> rfl) ?_
          refine r_goto d_X10_misfitsOf_68 ?_
          first | exact key 0 _ _ _ (by rw [e0, c58]; simp [pm_bl]) | exact key 1 _ _ _ (by rw [e0]; simp [pm_bl, c58])
set_option maxRecDepth 10000 in
set_option maxHeartbeats 4000000 in
theorem lp_misfitsOf_2 {h : pm_H} {mi : Nat → Int32} {ml : Nat → Int64} {A : Nat → Nat → Int32} {B : Nat → Nat → Int64} {r z : Nat} (hr : r < 4) (hz : A 62 r = nI z) (hz64 : z ≤ 64) {F : Option Value → pm_H → Prop} {b : Nat × Nat} (K : ∀ o5 o6 o7, pm_V e_X10_misfitsOf 166 [some (.ref 44), some (.int (nI r)), some (.int (nI 2)), some (.int (nI (sp_ct (sp_mp 2 (fun q => A 63 (64 * r + q)) z) z))), some (.int (nI z)), o5, o6, o7] [] (pmM h mi ml A B) b F) : ∀ (d i : Nat), i + d = z → ∀ o5 o6 o7, pm_V e_X10_misfitsOf 5 [some (.ref 44), some (.int (nI r)), some (.int (nI 2)), some (.int (nI (sp_ct (sp_mp 2 (fun q => A 63 (64 * r + q)) z) i))), some (.int (nI i)), o5, o6, o7] [] (pmM h mi ml A B) b F := by
  intro d
  induction d with
  | zero =>
    intro i hi o5 o6 o7
    rw [show i = z by omega]
    refine r_iload_4 d_X10_misfitsOf_5 ?_
    refine r_aload_0 d_X10_misfitsOf_7 ?_
    refine r_get d_X10_misfitsOf_8 s10_sizes rfl rfl ?_
    refine r_iload_1 d_X10_misfitsOf_11 ?_
    refine r_iald d_X10_misfitsOf_12 rfl (pm_ixN (by omega) (by omega)) ?_
    rw [hz]
    refine r_icmp_ge d_X10_misfitsOf_13 (fun c13 => ?_) (fun c13 => ?_)
    · -- taken at 13
      have c13 : z ≤ z := (nI_leI (a := z) (b := z) (by omega) (by omega)).mp c13
      exact K _ _ _
    · -- not taken at 13
      have c13 : ¬ z ≤ z := fun zz9 => c13 ((nI_leI (a := z) (b := z) (by omega) (by omega)).mpr zz9)
      exfalso; omega
  | succ d ih =>
    intro i hi o5 o6 o7
    have key : ∀ c9 o5 o6 o7, c9 = pm_bl (sp_mp 2 (fun q => A 63 (64 * r + q)) z i) → pm_V e_X10_misfitsOf 160 [some (.ref 44), some (.int (nI r)), some (.int (nI 2)), some (.int (nI ((sp_ct (sp_mp 2 (fun q => A 63 (64 * r + q)) z) i) + c9))), some (.int (nI i)), o5, o6, o7] [] (pmM h mi ml A B) b F := by
      intro c9 o5 o6 o7 hc9
      rw [hc9, ← sp_ct_s]
      refine r_iinc_4 d_X10_misfitsOf_160 (Nat.le_of_ble_eq_true rfl) (fun w hw => by cases hw <;> rfl) ?_
      rw [nI_1]
      refine r_goto d_X10_misfitsOf_163 ?_
      exact ih (i + 1) (by omega) _ _ _
    have hct := sp_ct_le (sp_mp 2 (fun q => A 63 (64 * r + q)) z) i
    have em : sp_mp 2 (fun q => A 63 (64 * r + q)) z i = ((i % 2 == 1) && sp_m2 (fun q => A 63 (64 * r + q)) z (i - 1)) := rfl
    rcases (by omega : i % 2 = 0 ∨ i % 2 = 1) with hi2 | hi2
    ·
      have e0 : sp_mp 2 (fun q => A 63 (64 * r + q)) z i = false := by rw [em, hi2]; rfl
      refine r_iload_4 d_X10_misfitsOf_5 ?_
      refine r_aload_0 d_X10_misfitsOf_7 ?_
      refine r_get d_X10_misfitsOf_8 s10_sizes rfl rfl ?_
      refine r_iload_1 d_X10_misfitsOf_11 ?_
      refine r_iald d_X10_misfitsOf_12 rfl (pm_ixN (by omega) (by omega)) ?_
      rw [hz]
      refine r_icmp_ge d_X10_misfitsOf_13 (fun c13 => ?_) (fun c13 => ?_)
      · -- taken at 13
        have c13 : z ≤ i := (nI_leI (a := z) (b := i) (by omega) (by omega)).mp c13
        exfalso; omega
      · -- not taken at 13
        have c13 : ¬ z ≤ i := fun zz9 => c13 ((nI_leI (a := z) (b := i) (by omega) (by omega)).mpr zz9)
        refine r_aload_0 d_X10_misfitsOf_16 ?_
        refine r_iload_1 d_X10_misfitsOf_17 ?_
        refine r_iload_4 d_X10_misfitsOf_18 ?_
        refine r_V2 d_X10_misfitsOf_20 (c_X10_leaf hr (by omega)) rfl rfl rfl ⟨rfl, rfl⟩ (Nat.le_of_ble_eq_true rfl) ?_
        refine r_istore_5 d_X10_misfitsOf_23 (Nat.le_of_ble_eq_true rfl) (fun w hw => by cases hw <;> rfl) ?_
        refine r_iload_2 d_X10_misfitsOf_25 ?_
        refine r_push (v := nI 2) d_X10_misfitsOf_26 ?_
        refine r_icmp_ge d_X10_misfitsOf_27 (fun c27 => ?_) (fun c27 => absurd (by decide) c27)
        clear c27
        refine r_iload_4 d_X10_misfitsOf_71 ?_
        refine r_push (v := nI 2) d_X10_misfitsOf_73 ?_
        refine r_irem d_X10_misfitsOf_74 (nI_ne0 (n := 2) (by omega) (by omega)) ?_
        rw [pk_rem (a := i) (d := 2) (by omega) (by omega) (by omega)]
        refine r_push (v := nI 1) d_X10_misfitsOf_75 ?_
        refine r_icmp_ne d_X10_misfitsOf_76 (fun c76 => ?_) (fun c76 => ?_)
        · -- taken at 76
          have c76 : ¬ (i % 2) = 1 := fun zz9 => c76 ((nI_eq (a := (i % 2)) (b := 1) (by omega) (by omega)).mpr zz9)
          exact key 0 _ _ _ (by rw [e0]; rfl)
        · -- not taken at 76
          have c76 : (i % 2) = 1 := (nI_eq (a := (i % 2)) (b := 1) (by omega) (by omega)).mp c76
          exfalso; omega
    ·
      have hi1 : i - 1 + 1 = i := by omega
      have e1 : sp_mp 2 (fun q => A 63 (64 * r + q)) z i = (sp_num (A 63 (64 * r + (i - 1))) && (sp_num (A 63 (64 * r + i)) && (sp_nb (A 63 (64 * r + i)) != sp_pt (sp_nb (A 63 (64 * r + (i - 1))))))) := by
        rw [em, hi2]
        unfold sp_m2
        dsimp only
        rw [hi1, decide_eq_true (show i < z by omega)]
        rfl
      cases hx : sp_num (A 63 (64 * r + i)) with
      | false =>
        have e0 : sp_mp 2 (fun q => A 63 (64 * r + q)) z i = false := by rw [e1, hx]; simp
        refine r_iload_4 d_X10_misfitsOf_5 ?_
        refine r_aload_0 d_X10_misfitsOf_7 ?_
        refine r_get d_X10_misfitsOf_8 s10_sizes rfl rfl ?_
        refine r_iload_1 d_X10_misfitsOf_11 ?_
        refine r_iald d_X10_misfitsOf_12 rfl (pm_ixN (by omega) (by omega)) ?_
        rw [hz]
        refine r_icmp_ge d_X10_misfitsOf_13 (fun c13 => ?_) (fun c13 => ?_)
        · -- taken at 13
          have c13 : z ≤ i := (nI_leI (a := z) (b := i) (by omega) (by omega)).mp c13
          exfalso; omega
        · -- not taken at 13
          have c13 : ¬ z ≤ i := fun zz9 => c13 ((nI_leI (a := z) (b := i) (by omega) (by omega)).mpr zz9)
          refine r_aload_0 d_X10_misfitsOf_16 ?_
          refine r_iload_1 d_X10_misfitsOf_17 ?_
          refine r_iload_4 d_X10_misfitsOf_18 ?_
          refine r_V2 d_X10_misfitsOf_20 (c_X10_leaf hr (by omega)) rfl rfl rfl ⟨rfl, rfl⟩ (Nat.le_of_ble_eq_true rfl) ?_
          refine r_istore_5 d_X10_misfitsOf_23 (Nat.le_of_ble_eq_true rfl) (fun w hw => by cases hw <;> rfl) ?_
          refine r_iload_2 d_X10_misfitsOf_25 ?_
          refine r_push (v := nI 2) d_X10_misfitsOf_26 ?_
          refine r_icmp_ge d_X10_misfitsOf_27 (fun c27 => ?_) (fun c27 => absurd (by decide) c27)
          clear c27
          refine r_iload_4 d_X10_misfitsOf_71 ?_
          refine r_push (v := nI 2) d_X10_misfitsOf_73 ?_
          refine r_irem d_X10_misfitsOf_74 (nI_ne0 (n := 2) (by omega) (by omega)) ?_
          rw [pk_rem (a := i) (d := 2) (by omega) (by omega) (by omega)]
          refine r_push (v := nI 1) d_X10_misfitsOf_75 ?_
          refine r_icmp_ne d_X10_misfitsOf_76 (fun c76 => ?_) (fun c76 => ?_)
          · -- taken at 76
            have c76 : ¬ (i % 2) = 1 := fun zz9 => c76 ((nI_eq (a := (i % 2)) (b := 1) (by omega) (by omega)).mpr zz9)
            exfalso; omega
          · -- not taken at 76
            have c76 : (i % 2) = 1 := (nI_eq (a := (i % 2)) (b := 1) (by omega) (by omega)).mp c76
            refine r_aload_0 d_X10_misfitsOf_79 ?_
            refine r_iload_1 d_X10_misfitsOf_80 ?_
            refine r_iload_4 d_X10_misfitsOf_81 ?_
            refine r_push (v := nI 1) d_X10_misfitsOf_83 ?_
            refine r_isub d_X10_misfitsOf_84 ?_
            rw [pk_sub (a := i) (b := 1) (by omega)]
            refine r_V2 d_X10_misfitsOf_85 (c_X10_leaf hr (by omega)) rfl rfl rfl ⟨rfl, rfl⟩ (Nat.le_of_ble_eq_true rfl) ?_
            refine r_istore_6 d_X10_misfitsOf_88 (Nat.le_of_ble_eq_true rfl) (fun w hw => by cases hw <;> rfl) ?_
            refine r_iload_5 d_X10_misfitsOf_90 ?_
            refine r_push (v := nI 0) d_X10_misfitsOf_92 ?_
            refine r_push (v := nI 63) d_X10_misfitsOf_93 ?_
            refine r_S3 d_X10_misfitsOf_95 (c_X10_inF hx) ⟨rfl, rfl⟩ (Nat.le_of_ble_eq_true rfl) ?_
            refine r_if_eq d_X10_misfitsOf_98 (fun c98 => ?_) (fun c98 => absurd (by decide) c98)
            clear c98
            refine r_push (v := nI 0) d_X10_misfitsOf_116 ?_
            refine r_istore_7 d_X10_misfitsOf_117 (Nat.le_of_ble_eq_true rfl) (fun w hw => by cases hw <;> rfl) ?_
            refine r_iload_3 d_X10_misfitsOf_119 ?_
            refine r_iload_7 d_X10_misfitsOf_120 ?_
            refine r_if_eq d_X10_misfitsOf_122 (fun c122 => ?_) (fun c122 => absurd (by decide) c122)
            clear c122
            refine r_push (v := nI 0) d_X10_misfitsOf_157 ?_
            refine r_iadd d_X10_misfitsOf_158 ?_
            rw [nI_add]
            refine r_istore_3 d_X10_misfitsOf_159 (Nat.le_of_ble_eq_true rfl) (fun w hw => by cases hw <;> rfl) ?_
            exact key 0 _ _ _ (by rw [e0]; rfl)
      | true =>
        obtain ⟨y, hy, hxy, hnb⟩ := sp_num_ex hx
        cases hw : sp_num (A 63 (64 * r + (i - 1))) with
        | false =>
          have e0 : sp_mp 2 (fun q => A 63 (64 * r + q)) z i = false := by rw [e1, hw]; simp
          refine r_iload_4 d_X10_misfitsOf_5 ?_
          refine r_aload_0 d_X10_misfitsOf_7 ?_
          refine r_get d_X10_misfitsOf_8 s10_sizes rfl rfl ?_
          refine r_iload_1 d_X10_misfitsOf_11 ?_
          refine r_iald d_X10_misfitsOf_12 rfl (pm_ixN (by omega) (by omega)) ?_
          rw [hz]
          refine r_icmp_ge d_X10_misfitsOf_13 (fun c13 => ?_) (fun c13 => ?_)
          · -- taken at 13
            have c13 : z ≤ i := (nI_leI (a := z) (b := i) (by omega) (by omega)).mp c13
            exfalso; omega
          · -- not taken at 13
            have c13 : ¬ z ≤ i := fun zz9 => c13 ((nI_leI (a := z) (b := i) (by omega) (by omega)).mpr zz9)
            refine r_aload_0 d_X10_misfitsOf_16 ?_
            refine r_iload_1 d_X10_misfitsOf_17 ?_
            refine r_iload_4 d_X10_misfitsOf_18 ?_
            refine r_V2 d_X10_misfitsOf_20 (c_X10_leaf hr (by omega)) rfl rfl rfl ⟨rfl, rfl⟩ (Nat.le_of_ble_eq_true rfl) ?_
            rw [hxy]
            refine r_istore_5 d_X10_misfitsOf_23 (Nat.le_of_ble_eq_true rfl) (fun w hw => by cases hw <;> rfl) ?_
            refine r_iload_2 d_X10_misfitsOf_25 ?_
            refine r_push (v := nI 2) d_X10_misfitsOf_26 ?_
            refine r_icmp_ge d_X10_misfitsOf_27 (fun c27 => ?_) (fun c27 => absurd (by decide) c27)
            clear c27
            refine r_iload_4 d_X10_misfitsOf_71 ?_
            refine r_push (v := nI 2) d_X10_misfitsOf_73 ?_
            refine r_irem d_X10_misfitsOf_74 (nI_ne0 (n := 2) (by omega) (by omega)) ?_
            rw [pk_rem (a := i) (d := 2) (by omega) (by omega) (by omega)]
            refine r_push (v := nI 1) d_X10_misfitsOf_75 ?_
            refine r_icmp_ne d_X10_misfitsOf_76 (fun c76 => ?_) (fun c76 => ?_)
            · -- taken at 76
              have c76 : ¬ (i % 2) = 1 := fun zz9 => c76 ((nI_eq (a := (i % 2)) (b := 1) (by omega) (by omega)).mpr zz9)
              exfalso; omega
            · -- not taken at 76
              have c76 : (i % 2) = 1 := (nI_eq (a := (i % 2)) (b := 1) (by omega) (by omega)).mp c76
              refine r_aload_0 d_X10_misfitsOf_79 ?_
              refine r_iload_1 d_X10_misfitsOf_80 ?_
              refine r_iload_4 d_X10_misfitsOf_81 ?_
              refine r_push (v := nI 1) d_X10_misfitsOf_83 ?_
              refine r_isub d_X10_misfitsOf_84 ?_
              rw [pk_sub (a := i) (b := 1) (by omega)]
              refine r_V2 d_X10_misfitsOf_85 (c_X10_leaf hr (by omega)) rfl rfl rfl ⟨rfl, rfl⟩ (Nat.le_of_ble_eq_true rfl) ?_
              refine r_istore_6 d_X10_misfitsOf_88 (Nat.le_of_ble_eq_true rfl) (fun w hw => by cases hw <;> rfl) ?_
              refine r_iload_5 d_X10_misfitsOf_90 ?_
              refine r_push (v := nI 0) d_X10_misfitsOf_92 ?_
              refine r_push (v := nI 63) d_X10_misfitsOf_93 ?_
              refine r_S3 d_X10_misfitsOf_95 (c_X10_inN (by omega) (by omega) (by omega)) ⟨rfl, rfl⟩ (Nat.le_of_ble_eq_true rfl) ?_
              refine r_if_eq d_X10_misfitsOf_98 (fun c98 => absurd c98 (by decide)) (fun c98 => ?_)
              clear c98
              refine r_iload_6 d_X10_misfitsOf_101 ?_
              refine r_push (v := nI 0) d_X10_misfitsOf_103 ?_
              refine r_push (v := nI 63) d_X10_misfitsOf_104 ?_
              refine r_S3 d_X10_misfitsOf_106 (c_X10_inF hw) ⟨rfl, rfl⟩ (Nat.le_of_ble_eq_true rfl) ?_
              refine r_if_eq d_X10_misfitsOf_109 (fun c109 => ?_) (fun c109 => absurd (by decide) c109)
              clear c109
              refine r_push (v := nI 0) d_X10_misfitsOf_116 ?_
              refine r_istore_7 d_X10_misfitsOf_117 (Nat.le_of_ble_eq_true rfl) (fun w hw => by cases hw <;> rfl) ?_
              refine r_iload_3 d_X10_misfitsOf_119 ?_
              refine r_iload_7 d_X10_misfitsOf_120 ?_
              refine r_if_eq d_X10_misfitsOf_122 (fun c122 => ?_) (fun c122 => absurd (by decide) c122)
              clear c122
              refine r_push (v := nI 0) d_X10_misfitsOf_157 ?_
              refine r_iadd d_X10_misfitsOf_158 ?_
              rw [nI_add]
              refine r_istore_3 d_X10_misfitsOf_159 (Nat.le_of_ble_eq_true rfl) (fun w hw => by cases hw <;> rfl) ?_
              exact key 0 _ _ _ (by rw [e0]; rfl)
        | true =>
          obtain ⟨u, hu, hxu, hnu⟩ := sp_num_ex hw
          have htl := sp_turn_lt u hu
          have e0 : sp_mp 2 (fun q => A 63 (64 * r + q)) z i = (y != sp_pt u) := by rw [e1, hw, hx, hnb, hnu]; rfl
          refine r_iload_4 d_X10_misfitsOf_5 ?_
          refine r_aload_0 d_X10_misfitsOf_7 ?_
          refine r_get d_X10_misfitsOf_8 s10_sizes rfl rfl ?_
          refine r_iload_1 d_X10_misfitsOf_11 ?_
          refine r_iald d_X10_misfitsOf_12 rfl (pm_ixN (by omega) (by omega)) ?_
          rw [hz]
          refine r_icmp_ge d_X10_misfitsOf_13 (fun c13 => ?_) (fun c13 => ?_)
          · -- taken at 13
            have c13 : z ≤ i := (nI_leI (a := z) (b := i) (by omega) (by omega)).mp c13
            exfalso; omega
          · -- not taken at 13
            have c13 : ¬ z ≤ i := fun zz9 => c13 ((nI_leI (a := z) (b := i) (by omega) (by omega)).mpr zz9)
            refine r_aload_0 d_X10_misfitsOf_16 ?_
            refine r_iload_1 d_X10_misfitsOf_17 ?_
            refine r_iload_4 d_X10_misfitsOf_18 ?_
            refine r_V2 d_X10_misfitsOf_20 (c_X10_leaf hr (by omega)) rfl rfl rfl ⟨rfl, rfl⟩ (Nat.le_of_ble_eq_true rfl) ?_
            rw [hxy]
            refine r_istore_5 d_X10_misfitsOf_23 (Nat.le_of_ble_eq_true rfl) (fun w hw => by cases hw <;> rfl) ?_
            refine r_iload_2 d_X10_misfitsOf_25 ?_
            refine r_push (v := nI 2) d_X10_misfitsOf_26 ?_
            refine r_icmp_ge d_X10_misfitsOf_27 (fun c27 => ?_) (fun c27 => absurd (by decide) c27)
            clear c27
            refine r_iload_4 d_X10_misfitsOf_71 ?_
            refine r_push (v := nI 2) d_X10_misfitsOf_73 ?_
            refine r_irem d_X10_misfitsOf_74 (nI_ne0 (n := 2) (by omega) (by omega)) ?_
            rw [pk_rem (a := i) (d := 2) (by omega) (by omega) (by omega)]
            refine r_push (v := nI 1) d_X10_misfitsOf_75 ?_
            refine r_icmp_ne d_X10_misfitsOf_76 (fun c76 => ?_) (fun c76 => ?_)
            · -- taken at 76
              have c76 : ¬ (i % 2) = 1 := fun zz9 => c76 ((nI_eq (a := (i % 2)) (b := 1) (by omega) (by omega)).mpr zz9)
              exfalso; omega
            · -- not taken at 76
              have c76 : (i % 2) = 1 := (nI_eq (a := (i % 2)) (b := 1) (by omega) (by omega)).mp c76
              refine r_aload_0 d_X10_misfitsOf_79 ?_
              refine r_iload_1 d_X10_misfitsOf_80 ?_
              refine r_iload_4 d_X10_misfitsOf_81 ?_
              refine r_push (v := nI 1) d_X10_misfitsOf_83 ?_
              refine r_isub d_X10_misfitsOf_84 ?_
              rw [pk_sub (a := i) (b := 1) (by omega)]
              refine r_V2 d_X10_misfitsOf_85 (c_X10_leaf hr (by omega)) rfl rfl rfl ⟨rfl, rfl⟩ (Nat.le_of_ble_eq_true rfl) ?_
              rw [hxu]
              refine r_istore_6 d_X10_misfitsOf_88 (Nat.le_of_ble_eq_true rfl) (fun w hw => by cases hw <;> rfl) ?_
              refine r_iload_5 d_X10_misfitsOf_90 ?_
              refine r_push (v := nI 0) d_X10_misfitsOf_92 ?_
              refine r_push (v := nI 63) d_X10_misfitsOf_93 ?_
              refine r_S3 d_X10_misfitsOf_95 (c_X10_inN (by omega) (by omega) (by omega)) ⟨rfl, rfl⟩ (Nat.le_of_ble_eq_true rfl) ?_
              refine r_if_eq d_X10_misfitsOf_98 (fun c98 => absurd c98 (by decide)) (fun c98 => ?_)
              clear c98
              refine r_iload_6 d_X10_misfitsOf_101 ?_
              refine r_push (v := nI 0) d_X10_misfitsOf_103 ?_
              refine r_push (v := nI 63) d_X10_misfitsOf_104 ?_
              refine r_S3 d_X10_misfitsOf_106 (c_X10_inN (by omega) (by omega) (by omega)) ⟨rfl, rfl⟩ (Nat.le_of_ble_eq_true rfl) ?_
              refine r_if_eq d_X10_misfitsOf_109 (fun c109 => absurd c109 (by decide)) (fun c109 => ?_)
              clear c109
              refine r_push (v := nI 1) d_X10_misfitsOf_112 ?_
              refine r_goto d_X10_misfitsOf_113 ?_
              refine r_istore_7 d_X10_misfitsOf_117 (Nat.le_of_ble_eq_true rfl) (fun w hw => by cases hw <;> rfl) ?_
              refine r_iload_3 d_X10_misfitsOf_119 ?_
              refine r_iload_7 d_X10_misfitsOf_120 ?_
              refine r_if_eq d_X10_misfitsOf_122 (fun c122 => absurd c122 (by decide)) (fun c122 => ?_)
              clear c122
              refine r_iload_5 d_X10_misfitsOf_125 ?_
              refine r_iload_6 d_X10_misfitsOf_127 ?_
              refine r_S1 d_X10_misfitsOf_129 (c_X10_turned hu) ⟨rfl, rfl⟩ (Nat.le_of_ble_eq_true rfl) ?_
              refine r_iload_6 d_X10_misfitsOf_132 ?_
              refine r_icmp_ne d_X10_misfitsOf_134 (fun c134 => ?_) (fun c134 => ?_)
              · -- taken at 134
                have c134 : ¬ (sp_turn u) = u := fun zz9 => c134 ((nI_eq (a := (sp_turn u)) (b := u) (by omega) (by omega)).mpr zz9)
                refine r_iload_6 d_X10_misfitsOf_145 ?_
                refine r_S1 d_X10_misfitsOf_147 (c_X10_turned hu) ⟨rfl, rfl⟩ (Nat.le_of_ble_eq_true rfl) ?_
                refine r_icmp_eq d_X10_misfitsOf_150 (fun c150 => ?_) (fun c150 => ?_)
                · -- taken at 150
                  have c150 : y = (sp_turn u) := (nI_eq (a := y) (b := (sp_turn u)) (by omega) (by omega)).mp c150
                  refine r_push (v := nI 0) d_X10_misfitsOf_157 ?_
                  refine r_iadd d_X10_misfitsOf_158 ?_
                  rw [nI_add]
                  refine r_istore_3 d_X10_misfitsOf_159 (Nat.le_of_ble_eq_true rfl) (fun w hw => by cases hw <;> rfl) ?_
                  have ept : sp_pt u = if sp_turn u = u then 63 - sp_turn u else sp_turn u := rfl
                  first | rw [if_pos c134] at ept | rw [if_neg c134] at ept
                  first | exact key 0 _ _ _ (by rw [e0, show y = sp_pt u by omega]; simp [pm_bl]) | exact key 1 _ _ _ (by rw [e0]; simp only [pm_bl]; rw [if_pos (bne_iff_ne.mpr (by omega))])
                · -- not taken at 150
                  have c150 : ¬ y = (sp_turn u) := fun zz9 => c150 ((nI_eq (a := y) (b := (sp_turn u)) (by omega) (by omega)).mpr zz9)
                  refine r_push (v := nI 1) d_X10_misfitsOf_153 ?_
                  refine r_goto d_X10_misfitsOf_154 ?_
                  refine r_iadd d_X10_misfitsOf_158 ?_
                  rw [nI_add]
                  refine r_istore_3 d_X10_misfitsOf_159 (Nat.le_of_ble_eq_true rfl) (fun w hw => by cases hw <;> rfl) ?_
                  have ept : sp_pt u = if sp_turn u = u then 63 - sp_turn u else sp_turn u := rfl
                  first | rw [if_pos c134] at ept | rw [if_neg c134] at ept
                  first | exact key 0 _ _ _ (by rw [e0, show y = sp_pt u by omega]; simp [pm_bl]) | exact key 1 _ _ _ (by rw [e0]; simp only [pm_bl]; rw [if_pos (bne_iff_ne.mpr (by omega))])
              · -- not taken at 134
                have c134 : (sp_turn u) = u := (nI_eq (a := (sp_turn u)) (b := u) (by omega) (by omega)).mp c134
                refine r_push (v := nI 63) d_X10_misfitsOf_137 ?_
                refine r_iload_6 d_X10_misfitsOf_139 ?_
                refine r_isub d_X10_misfitsOf_141 ?_
                rw [pk_sub (a := 63) (b := u) (by omega)]
                refine r_goto d_X10_misfitsOf_142 ?_
                refine r_icmp_eq d_X10_misfitsOf_150 (fun c150 => ?_) (fun c150 => ?_)
                · -- taken at 150
                  have c150 : y = (63 - u) := (nI_eq (a := y) (b := (63 - u)) (by omega) (by omega)).mp c150
                  refine r_push (v := nI 0) d_X10_misfitsOf_157 ?_
                  refine r_iadd d_X10_misfitsOf_158 ?_
                  rw [nI_add]
                  refine r_istore_3 d_X10_misfitsOf_159 (Nat.le_of_ble_eq_true rfl) (fun w hw => by cases hw <;> rfl) ?_
                  have ept : sp_pt u = if sp_turn u = u then 63 - sp_turn u else sp_turn u := rfl
                  first | rw [if_pos c134] at ept | rw [if_neg c134] at ept
                  first | exact key 0 _ _ _ (by rw [e0, show y = sp_pt u by omega]; simp [pm_bl]) | exact key 1 _ _ _ (by rw [e0]; simp only [pm_bl]; rw [if_pos (bne_iff_ne.mpr (by omega))])
                · -- not taken at 150
                  have c150 : ¬ y = (63 - u) := fun zz9 => c150 ((nI_eq (a := y) (b := (63 - u)) (by omega) (by omega)).mpr zz9)
                  refine r_push (v := nI 1) d_X10_misfitsOf_153 ?_
                  refine r_goto d_X10_misfitsOf_154 ?_
                  refine r_iadd d_X10_misfitsOf_158 ?_
                  rw [nI_add]
                  refine r_istore_3 d_X10_misfitsOf_159 (Nat.le_of_ble_eq_true rfl) (fun w hw => by cases hw <;> rfl) ?_
                  have ept : sp_pt u = if sp_turn u = u then 63 - sp_turn u else sp_turn u := rfl
                  first | rw [if_pos c134] at ept | rw [if_neg c134] at ept
                  first | exact key 0 _ _ _ (by rw [e0, show y = sp_pt u by omega]; simp [pm_bl]) | exact key 1 _ _ _ (by rw [e0]; simp only [pm_bl]; rw [if_pos (bne_iff_ne.mpr (by omega))])
set_option maxRecDepth 10000 in
set_option maxHeartbeats 4000000 in
theorem c_X10_misfitsOf {h : pm_H} {mi : Nat → Int32} {ml : Nat → Int64} {A : Nat → Nat → Int32} {B : Nat → Nat → Int64} {r z : Nat} (hr : r < 4) (hz : A 62 r = nI z) (hz64 : z ≤ 64) {ord : Nat} (ho : ord ≤ 2) : pm_Cv e_X10_misfitsOf [.ref 44, .int (nI r), .int (nI ord)] (pmM h mi ml A B) (.int (nI (sp_mc ord (fun q => A 63 (64 * r + q)) z))) (pmM h mi ml A B) := by
  refine pm_enter rfl (Nat.le_of_ble_eq_true rfl) ?_
  show pm_V e_X10_misfitsOf 0 [some (.ref 44), some (.int (nI r)), some (.int (nI ord)), none, none, none, none, none] [] (pmM h mi ml A B) (0, 0) _
  refine r_push (v := nI 0) d_X10_misfitsOf_0 ?_
  refine r_istore_3 d_X10_misfitsOf_1 (Nat.le_of_ble_eq_true rfl) (fun w hw => by cases hw <;> rfl) ?_
  refine r_push (v := nI 0) d_X10_misfitsOf_2 ?_
  refine r_istore_4 d_X10_misfitsOf_3 (Nat.le_of_ble_eq_true rfl) (fun w hw => by cases hw <;> rfl) ?_
  rcases (by omega : ord = 0 ∨ ord = 1 ∨ ord = 2) with rfl | rfl | rfl
  · exact lp_misfitsOf_0 hr hz hz64 (fun o5 o6 o7 => r_iload_3 d_X10_misfitsOf_166 (r_ireturn d_X10_misfitsOf_167 ⟨_, rfl, rfl⟩ ⟨rfl, rfl⟩)) z 0 (by omega) none none none
  · exact lp_misfitsOf_1 hr hz hz64 (fun o5 o6 o7 => r_iload_3 d_X10_misfitsOf_166 (r_ireturn d_X10_misfitsOf_167 ⟨_, rfl, rfl⟩ ⟨rfl, rfl⟩)) z 0 (by omega) none none none
  · exact lp_misfitsOf_2 hr hz hz64 (fun o5 o6 o7 => r_iload_3 d_X10_misfitsOf_166 (r_ireturn d_X10_misfitsOf_167 ⟨_, rfl, rfl⟩ ⟨rfl, rfl⟩)) z 0 (by omega) none none none
set_option maxRecDepth 10000 in
set_option maxHeartbeats 4000000 in
theorem c_X10_misfits_bad1 {h : pm_H} {mi : Nat → Int32} {ml : Nat → Int64} {A : Nat → Nat → Int32} {B : Nat → Nat → Int64} {r o : Int32} (ho : sp_in o 0 2 = false) : pm_Cv e_X10_misfits [.ref 44, .int r, .int o] (pmM h mi ml A B) (.int (-1)) (pmM h mi ml A B) := by
  refine pm_enter rfl (Nat.le_of_ble_eq_true rfl) ?_
  show pm_V e_X10_misfits 0 [some (.ref 44), some (.int r), some (.int o), none] [] (pmM h mi ml A B) (0, 0) _
  refine r_iload_2 d_X10_misfits_0 ?_
  refine r_push d_X10_misfits_1 ?_
  refine r_push d_X10_misfits_2 ?_
  refine r_S3 d_X10_misfits_3 c_X10_in ⟨rfl, rfl⟩ (Nat.le_of_ble_eq_true rfl) ?_
  rw [ho]
  show pm_V _ _ _ (.int (nI 0) :: _) _ _ _
  refine r_if_ne d_X10_misfits_6 (fun c6 => absurd (by decide) c6) (fun c6 => ?_)
  clear c6
  refine r_push d_X10_misfits_9 ?_
  refine r_ireturn d_X10_misfits_10 ⟨_, rfl, rfl⟩ ?_
  exact ⟨rfl, rfl⟩
set_option maxRecDepth 10000 in
set_option maxHeartbeats 4000000 in
theorem c_X10_misfits_bad {h : pm_H} {mi : Nat → Int32} {ml : Nat → Int64} {A : Nat → Nat → Int32} {B : Nat → Nat → Int64} {r o : Int32} (ho : sp_in o 0 2 = true) (hr : sp_in r 0 3 = false) : pm_Cv e_X10_misfits [.ref 44, .int r, .int o] (pmM h mi ml A B) (.int (-1)) (pmM h mi ml A B) := by
  refine pm_enter rfl (Nat.le_of_ble_eq_true rfl) ?_
  show pm_V e_X10_misfits 0 [some (.ref 44), some (.int r), some (.int o), none] [] (pmM h mi ml A B) (0, 0) _
  refine r_iload_2 d_X10_misfits_0 ?_
  refine r_push d_X10_misfits_1 ?_
  refine r_push d_X10_misfits_2 ?_
  refine r_S3 d_X10_misfits_3 c_X10_in ⟨rfl, rfl⟩ (Nat.le_of_ble_eq_true rfl) ?_
  rw [ho]
  show pm_V _ _ _ (.int (nI 1) :: _) _ _ _
  refine r_if_ne d_X10_misfits_6 (fun c6 => ?_) (fun c6 => absurd c6 (by decide))
  clear c6
  refine r_aload_0 d_X10_misfits_11 ?_
  refine r_iload_1 d_X10_misfits_12 ?_
  refine r_V1 d_X10_misfits_13 (c_X10_looked_bad hr) rfl rfl rfl ⟨rfl, rfl⟩ (Nat.le_of_ble_eq_true rfl) ?_
  refine r_istore_3 d_X10_misfits_16 (Nat.le_of_ble_eq_true rfl) (fun w hw => by cases hw <;> rfl) ?_
  refine r_iload_3 d_X10_misfits_17 ?_
  refine r_if_ge d_X10_misfits_18 (fun c18 => ?_) (fun c18 => ?_)
  · -- taken at 18
    exact absurd c18 (by decide)
  · -- not taken at 18
    refine r_iload_3 d_X10_misfits_21 ?_
    refine r_goto d_X10_misfits_22 ?_
    refine r_ireturn d_X10_misfits_31 ⟨_, rfl, rfl⟩ ?_
    exact ⟨rfl, rfl⟩
set_option maxRecDepth 10000 in
set_option maxHeartbeats 4000000 in
theorem c_X10_misfits_none {h : pm_H} {mi : Nat → Int32} {ml : Nat → Int64} {A : Nat → Nat → Int32} {B : Nat → Nat → Int64} {r : Nat} {o : Int32} (ho : sp_in o 0 2 = true) (hr : r < 4) (hz : A 62 r = -9) : pm_Cv e_X10_misfits [.ref 44, .int (nI r), .int o] (pmM h mi ml A B) (.int (-3)) (m_meet h mi ml A B 1) := by
  refine pm_enter rfl (Nat.le_of_ble_eq_true rfl) ?_
  show pm_V e_X10_misfits 0 [some (.ref 44), some (.int (nI r)), some (.int o), none] [] (pmM h mi ml A B) (0, 0) _
  refine r_iload_2 d_X10_misfits_0 ?_
  refine r_push d_X10_misfits_1 ?_
  refine r_push d_X10_misfits_2 ?_
  refine r_S3 d_X10_misfits_3 c_X10_in ⟨rfl, rfl⟩ (Nat.le_of_ble_eq_true rfl) ?_
  rw [ho]
  show pm_V _ _ _ (.int (nI 1) :: _) _ _ _
  refine r_if_ne d_X10_misfits_6 (fun c6 => ?_) (fun c6 => absurd c6 (by decide))
  clear c6
  refine r_aload_0 d_X10_misfits_11 ?_
  refine r_iload_1 d_X10_misfits_12 ?_
  refine r_V1 d_X10_misfits_13 (c_X10_looked_none hr hz) rfl rfl rfl ⟨rfl, rfl⟩ (Nat.le_of_ble_eq_true rfl) ?_
  refine r_istore_3 d_X10_misfits_16 (Nat.le_of_ble_eq_true rfl) (fun w hw => by cases hw <;> rfl) ?_
  refine r_iload_3 d_X10_misfits_17 ?_
  refine r_if_ge d_X10_misfits_18 (fun c18 => ?_) (fun c18 => ?_)
  · -- taken at 18
    exact absurd c18 (by decide)
  · -- not taken at 18
    refine r_iload_3 d_X10_misfits_21 ?_
    refine r_goto d_X10_misfits_22 ?_
    refine r_ireturn d_X10_misfits_31 ⟨_, rfl, rfl⟩ ?_
    exact ⟨rfl, rfl⟩
set_option maxRecDepth 10000 in
set_option maxHeartbeats 4000000 in
theorem c_X10_misfits {h : pm_H} {mi : Nat → Int32} {ml : Nat → Int64} {A : Nat → Nat → Int32} {B : Nat → Nat → Int64} {r z : Nat} (hr : r < 4) (hz : A 62 r = nI z) (hz64 : z ≤ 64) {o : Nat} (ho : o ≤ 2) : pm_Cv e_X10_misfits [.ref 44, .int (nI r), .int (nI o)] (pmM h mi ml A B) (.int (nI (sp_mc o (fun q => A 63 (64 * r + q)) z))) (pmM h mi ml A B) := by
  refine pm_enter rfl (Nat.le_of_ble_eq_true rfl) ?_
  show pm_V e_X10_misfits 0 [some (.ref 44), some (.int (nI r)), some (.int (nI o)), none] [] (pmM h mi ml A B) (0, 0) _
  refine r_iload_2 d_X10_misfits_0 ?_
  refine r_push (v := nI 0) d_X10_misfits_1 ?_
  refine r_push (v := nI 2) d_X10_misfits_2 ?_
  refine r_S3 d_X10_misfits_3 (c_X10_inN (by omega) (by omega) (by omega)) ⟨rfl, rfl⟩ (Nat.le_of_ble_eq_true rfl) ?_
  refine r_if_ne d_X10_misfits_6 (fun c6 => ?_) (fun c6 => absurd c6 (by decide))
  clear c6
  refine r_aload_0 d_X10_misfits_11 ?_
  refine r_iload_1 d_X10_misfits_12 ?_
  refine r_V1 d_X10_misfits_13 (c_X10_looked hr hz hz64) rfl rfl rfl ⟨rfl, rfl⟩ (Nat.le_of_ble_eq_true rfl) ?_
  show pm_V _ _ _ (.int (nI 0) :: _) _ _ _
  refine r_istore_3 d_X10_misfits_16 (Nat.le_of_ble_eq_true rfl) (fun w hw => by cases hw <;> rfl) ?_
  refine r_iload_3 d_X10_misfits_17 ?_
  refine r_if_ge d_X10_misfits_18 (fun c18 => ?_) (fun c18 => absurd (by decide) c18)
  clear c18
  refine r_aload_0 d_X10_misfits_25 ?_
  refine r_iload_1 d_X10_misfits_26 ?_
  refine r_iload_2 d_X10_misfits_27 ?_
  refine r_V2 d_X10_misfits_28 (c_X10_misfitsOf hr hz hz64 (ord := o) (by omega)) rfl rfl rfl ⟨rfl, rfl⟩ (Nat.le_of_ble_eq_true rfl) ?_
  refine r_ireturn d_X10_misfits_31 ⟨_, rfl, rfl⟩ ?_
  exact ⟨rfl, rfl⟩
set_option maxRecDepth 10000 in
set_option maxHeartbeats 4000000 in
theorem c_X10_follows_bad {h : pm_H} {mi : Nat → Int32} {ml : Nat → Int64} {A : Nat → Nat → Int32} {B : Nat → Nat → Int64} {r : Int32} (hr : sp_in r 0 3 = false) : pm_Cv e_X10_follows [.ref 44, .int r] (pmM h mi ml A B) (.int (-1)) (pmM h mi ml A B) := by
  refine pm_enter rfl (Nat.le_of_ble_eq_true rfl) ?_
  show pm_V e_X10_follows 0 [some (.ref 44), some (.int r), none, none, none] [] (pmM h mi ml A B) (0, 0) _
  refine r_aload_0 d_X10_follows_0 ?_
  refine r_iload_1 d_X10_follows_1 ?_
  refine r_V1 d_X10_follows_2 (c_X10_looked_bad hr) rfl rfl rfl ⟨rfl, rfl⟩ (Nat.le_of_ble_eq_true rfl) ?_
  refine r_istore_2 d_X10_follows_5 (Nat.le_of_ble_eq_true rfl) (fun w hw => by cases hw <;> rfl) ?_
  refine r_iload_2 d_X10_follows_6 ?_
  refine r_if_ge d_X10_follows_7 (fun c7 => ?_) (fun c7 => ?_)
  · -- taken at 7
    exact absurd c7 (by decide)
  · -- not taken at 7
    refine r_iload_2 d_X10_follows_10 ?_
    refine r_ireturn d_X10_follows_11 ⟨_, rfl, rfl⟩ ?_
    exact ⟨rfl, rfl⟩
set_option maxRecDepth 10000 in
set_option maxHeartbeats 4000000 in
theorem c_X10_follows_none {h : pm_H} {mi : Nat → Int32} {ml : Nat → Int64} {A : Nat → Nat → Int32} {B : Nat → Nat → Int64} {r : Nat} (hr : r < 4) (hz : A 62 r = -9) : pm_Cv e_X10_follows [.ref 44, .int (nI r)] (pmM h mi ml A B) (.int (-3)) (m_meet h mi ml A B 1) := by
  refine pm_enter rfl (Nat.le_of_ble_eq_true rfl) ?_
  show pm_V e_X10_follows 0 [some (.ref 44), some (.int (nI r)), none, none, none] [] (pmM h mi ml A B) (0, 0) _
  refine r_aload_0 d_X10_follows_0 ?_
  refine r_iload_1 d_X10_follows_1 ?_
  refine r_V1 d_X10_follows_2 (c_X10_looked_none hr hz) rfl rfl rfl ⟨rfl, rfl⟩ (Nat.le_of_ble_eq_true rfl) ?_
  refine r_istore_2 d_X10_follows_5 (Nat.le_of_ble_eq_true rfl) (fun w hw => by cases hw <;> rfl) ?_
  refine r_iload_2 d_X10_follows_6 ?_
  refine r_if_ge d_X10_follows_7 (fun c7 => ?_) (fun c7 => ?_)
  · -- taken at 7
    exact absurd c7 (by decide)
  · -- not taken at 7
    refine r_iload_2 d_X10_follows_10 ?_
    refine r_ireturn d_X10_follows_11 ⟨_, rfl, rfl⟩ ?_
    exact ⟨rfl, rfl⟩
def sp_fo (m0 m1 m2 : Nat) : Nat × Nat := if m1 < m0 then (if m2 < m1 then (2, m2) else (1, m1)) else (if m2 < m0 then (2, m2) else (0, m0))
theorem sp_mc_le (ord : Nat) (v : Nat → Int32) (z : Nat) : sp_mc ord v z ≤ z := sp_ct_le _ _
set_option maxRecDepth 10000 in
set_option maxHeartbeats 4000000 in
theorem c_X10_follows {h : pm_H} {mi : Nat → Int32} {ml : Nat → Int64} {A : Nat → Nat → Int32} {B : Nat → Nat → Int64} {r z : Nat} (hr : r < 4) (hz : A 62 r = nI z) (hz64 : z ≤ 64) : pm_Cv e_X10_follows [.ref 44, .int (nI r)] (pmM h mi ml A B) (.int (nI (sp_fo (sp_mc 0 (fun q => A 63 (64 * r + q)) z) (sp_mc 1 (fun q => A 63 (64 * r + q)) z) (sp_mc 2 (fun q => A 63 (64 * r + q)) z)).1)) (pmM h mi (vp_updL ml 0 (lN (sp_fo (sp_mc 0 (fun q => A 63 (64 * r + q)) z) (sp_mc 1 (fun q => A 63 (64 * r + q)) z) (sp_mc 2 (fun q => A 63 (64 * r + q)) z)).2)) A B) := by
  have hm0 := sp_mc_le 0 (fun q => A 63 (64 * r + q)) z
  have hm1 := sp_mc_le 1 (fun q => A 63 (64 * r + q)) z
  have hm2 := sp_mc_le 2 (fun q => A 63 (64 * r + q)) z
  refine pm_enter rfl (Nat.le_of_ble_eq_true rfl) ?_
  show pm_V e_X10_follows 0 [some (.ref 44), some (.int (nI r)), none, none, none] [] (pmM h mi ml A B) (0, 0) _
  refine r_aload_0 d_X10_follows_0 ?_
  refine r_iload_1 d_X10_follows_1 ?_
  refine r_V1 d_X10_follows_2 (c_X10_looked hr hz hz64) rfl rfl rfl ⟨rfl, rfl⟩ (Nat.le_of_ble_eq_true rfl) ?_
  show pm_V _ _ _ (.int (nI 0) :: _) _ _ _
  refine r_istore_2 d_X10_follows_5 (Nat.le_of_ble_eq_true rfl) (fun w hw => by cases hw <;> rfl) ?_
  refine r_iload_2 d_X10_follows_6 ?_
  refine r_if_ge d_X10_follows_7 (fun c7 => ?_) (fun c7 => absurd (by decide) c7)
  clear c7
  refine r_push (v := nI 0) d_X10_follows_12 ?_
  refine r_istore_3 d_X10_follows_13 (Nat.le_of_ble_eq_true rfl) (fun w hw => by cases hw <;> rfl) ?_
  refine r_push (v := nI 1) d_X10_follows_14 ?_
  refine r_istore_4 d_X10_follows_15 (Nat.le_of_ble_eq_true rfl) (fun w hw => by cases hw <;> rfl) ?_
  refine r_iload_4 d_X10_follows_17 ?_
  refine r_push (v := nI 3) d_X10_follows_19 ?_
  refine r_icmp_ge d_X10_follows_20 (fun c20 => absurd c20 (by decide)) (fun c20 => ?_)
  clear c20
  refine r_aload_0 d_X10_follows_23 ?_
  refine r_iload_1 d_X10_follows_24 ?_
  refine r_iload_4 d_X10_follows_25 ?_
  refine r_V2 d_X10_follows_27 (c_X10_misfitsOf hr hz hz64 (ord := 1) (by omega)) rfl rfl rfl ⟨rfl, rfl⟩ (Nat.le_of_ble_eq_true rfl) ?_
  refine r_aload_0 d_X10_follows_30 ?_
  refine r_iload_1 d_X10_follows_31 ?_
  refine r_iload_3 d_X10_follows_32 ?_
  refine r_V2 d_X10_follows_33 (c_X10_misfitsOf hr hz hz64 (ord := 0) (by omega)) rfl rfl rfl ⟨rfl, rfl⟩ (Nat.le_of_ble_eq_true rfl) ?_
  refine r_icmp_ge d_X10_follows_36 (fun c36_1 => ?_) (fun c36_1 => ?_)
  · -- taken at 36
    have c36_1 : (sp_mc 0 (fun q => A 63 (64 * r + q)) z) ≤ (sp_mc 1 (fun q => A 63 (64 * r + q)) z) := (nI_leI (a := (sp_mc 0 (fun q => A 63 (64 * r + q)) z)) (b := (sp_mc 1 (fun q => A 63 (64 * r + q)) z)) (by omega) (by omega)).mp c36_1
    refine r_iload_3 d_X10_follows_44 ?_
    refine r_istore_3 d_X10_follows_45 (Nat.le_of_ble_eq_true rfl) (fun w hw => by cases hw <;> rfl) ?_
    refine r_iinc_4 d_X10_follows_46 (Nat.le_of_ble_eq_true rfl) (fun w hw => by cases hw <;> rfl) ?_
    rw [show nI 1 + 1 = nI 2 from rfl]
    refine r_goto d_X10_follows_49 ?_
    refine r_iload_4 d_X10_follows_17 ?_
    refine r_push (v := nI 3) d_X10_follows_19 ?_
    refine r_icmp_ge d_X10_follows_20 (fun c20 => absurd c20 (by decide)) (fun c20 => ?_)
    clear c20
    refine r_aload_0 d_X10_follows_23 ?_
    refine r_iload_1 d_X10_follows_24 ?_
    refine r_iload_4 d_X10_follows_25 ?_
    refine r_V2 d_X10_follows_27 (c_X10_misfitsOf hr hz hz64 (ord := 2) (by omega)) rfl rfl rfl ⟨rfl, rfl⟩ (Nat.le_of_ble_eq_true rfl) ?_
    refine r_aload_0 d_X10_follows_30 ?_
    refine r_iload_1 d_X10_follows_31 ?_
    refine r_iload_3 d_X10_follows_32 ?_
    refine r_V2 d_X10_follows_33 (c_X10_misfitsOf hr hz hz64 (ord := 0) (by omega)) rfl rfl rfl ⟨rfl, rfl⟩ (Nat.le_of_ble_eq_true rfl) ?_
    refine r_icmp_ge d_X10_follows_36 (fun c36_2 => ?_) (fun c36_2 => ?_)
    · -- taken at 36
      have c36_2 : (sp_mc 0 (fun q => A 63 (64 * r + q)) z) ≤ (sp_mc 2 (fun q => A 63 (64 * r + q)) z) := (nI_leI (a := (sp_mc 0 (fun q => A 63 (64 * r + q)) z)) (b := (sp_mc 2 (fun q => A 63 (64 * r + q)) z)) (by omega) (by omega)).mp c36_2
      refine r_iload_3 d_X10_follows_44 ?_
      refine r_istore_3 d_X10_follows_45 (Nat.le_of_ble_eq_true rfl) (fun w hw => by cases hw <;> rfl) ?_
      refine r_iinc_4 d_X10_follows_46 (Nat.le_of_ble_eq_true rfl) (fun w hw => by cases hw <;> rfl) ?_
      rw [show nI 2 + 1 = nI 3 from rfl]
      refine r_goto d_X10_follows_49 ?_
      refine r_iload_4 d_X10_follows_17 ?_
      refine r_push (v := nI 3) d_X10_follows_19 ?_
      refine r_icmp_ge d_X10_follows_20 (fun c20 => ?_) (fun c20 => absurd (by decide) c20)
      clear c20
      refine r_aload_0 d_X10_follows_52 ?_
      refine r_aload_0 d_X10_follows_53 ?_
      refine r_iload_1 d_X10_follows_54 ?_
      refine r_iload_3 d_X10_follows_55 ?_
      refine r_V2 d_X10_follows_56 (c_X10_misfitsOf hr hz hz64 (ord := 0) (by omega)) rfl rfl rfl ⟨rfl, rfl⟩ (Nat.le_of_ble_eq_true rfl) ?_
      refine r_i2l d_X10_follows_59 ?_
      rw [nI_l (n := (sp_mc 0 (fun q => A 63 (64 * r + q)) z)) (by omega)]
      refine r_put d_X10_follows_60 s10_asked rfl (Nat.le_of_ble_eq_true rfl) ⟨rfl, rfl⟩ ?_
      rw [pmM_asked]
      refine r_iload_3 d_X10_follows_63 ?_
      refine r_ireturn d_X10_follows_64 ⟨_, rfl, rfl⟩ ?_
      have efo : (sp_fo (sp_mc 0 (fun q => A 63 (64 * r + q)) z) (sp_mc 1 (fun q => A 63 (64 * r + q)) z) (sp_mc 2 (fun q => A 63 (64 * r + q)) z)) = (0, (sp_mc 0 (fun q => A 63 (64 * r + q)) z)) := by unfold sp_fo; repeat (first | rw [if_pos (by omega)] | rw [if_neg (by omega)])
      rw [efo]
      exact ⟨rfl, rfl⟩
    · -- not taken at 36
      have c36_2 : ¬ (sp_mc 0 (fun q => A 63 (64 * r + q)) z) ≤ (sp_mc 2 (fun q => A 63 (64 * r + q)) z) := fun zz9 => c36_2 ((nI_leI (a := (sp_mc 0 (fun q => A 63 (64 * r + q)) z)) (b := (sp_mc 2 (fun q => A 63 (64 * r + q)) z)) (by omega) (by omega)).mpr zz9)
      refine r_iload_4 d_X10_follows_39 ?_
      refine r_goto d_X10_follows_41 ?_
      refine r_istore_3 d_X10_follows_45 (Nat.le_of_ble_eq_true rfl) (fun w hw => by cases hw <;> rfl) ?_
      refine r_iinc_4 d_X10_follows_46 (Nat.le_of_ble_eq_true rfl) (fun w hw => by cases hw <;> rfl) ?_
      rw [show nI 2 + 1 = nI 3 from rfl]
      refine r_goto d_X10_follows_49 ?_
      refine r_iload_4 d_X10_follows_17 ?_
      refine r_push (v := nI 3) d_X10_follows_19 ?_
      refine r_icmp_ge d_X10_follows_20 (fun c20 => ?_) (fun c20 => absurd (by decide) c20)
      clear c20
      refine r_aload_0 d_X10_follows_52 ?_
      refine r_aload_0 d_X10_follows_53 ?_
      refine r_iload_1 d_X10_follows_54 ?_
      refine r_iload_3 d_X10_follows_55 ?_
      refine r_V2 d_X10_follows_56 (c_X10_misfitsOf hr hz hz64 (ord := 2) (by omega)) rfl rfl rfl ⟨rfl, rfl⟩ (Nat.le_of_ble_eq_true rfl) ?_
      refine r_i2l d_X10_follows_59 ?_
      rw [nI_l (n := (sp_mc 2 (fun q => A 63 (64 * r + q)) z)) (by omega)]
      refine r_put d_X10_follows_60 s10_asked rfl (Nat.le_of_ble_eq_true rfl) ⟨rfl, rfl⟩ ?_
      rw [pmM_asked]
      refine r_iload_3 d_X10_follows_63 ?_
      refine r_ireturn d_X10_follows_64 ⟨_, rfl, rfl⟩ ?_
      have efo : (sp_fo (sp_mc 0 (fun q => A 63 (64 * r + q)) z) (sp_mc 1 (fun q => A 63 (64 * r + q)) z) (sp_mc 2 (fun q => A 63 (64 * r + q)) z)) = (2, (sp_mc 2 (fun q => A 63 (64 * r + q)) z)) := by unfold sp_fo; repeat (first | rw [if_pos (by omega)] | rw [if_neg (by omega)])
      rw [efo]
      exact ⟨rfl, rfl⟩
  · -- not taken at 36
    have c36_1 : ¬ (sp_mc 0 (fun q => A 63 (64 * r + q)) z) ≤ (sp_mc 1 (fun q => A 63 (64 * r + q)) z) := fun zz9 => c36_1 ((nI_leI (a := (sp_mc 0 (fun q => A 63 (64 * r + q)) z)) (b := (sp_mc 1 (fun q => A 63 (64 * r + q)) z)) (by omega) (by omega)).mpr zz9)
    refine r_iload_4 d_X10_follows_39 ?_
    refine r_goto d_X10_follows_41 ?_
    refine r_istore_3 d_X10_follows_45 (Nat.le_of_ble_eq_true rfl) (fun w hw => by cases hw <;> rfl) ?_
    refine r_iinc_4 d_X10_follows_46 (Nat.le_of_ble_eq_true rfl) (fun w hw => by cases hw <;> rfl) ?_
    rw [show nI 1 + 1 = nI 2 from rfl]
    refine r_goto d_X10_follows_49 ?_
    refine r_iload_4 d_X10_follows_17 ?_
    refine r_push (v := nI 3) d_X10_follows_19 ?_
    refine r_icmp_ge d_X10_follows_20 (fun c20 => absurd c20 (by decide)) (fun c20 => ?_)
    clear c20
    refine r_aload_0 d_X10_follows_23 ?_
    refine r_iload_1 d_X10_follows_24 ?_
    refine r_iload_4 d_X10_follows_25 ?_
    refine r_V2 d_X10_follows_27 (c_X10_misfitsOf hr hz hz64 (ord := 2) (by omega)) rfl rfl rfl ⟨rfl, rfl⟩ (Nat.le_of_ble_eq_true rfl) ?_
    refine r_aload_0 d_X10_follows_30 ?_
    refine r_iload_1 d_X10_follows_31 ?_
    refine r_iload_3 d_X10_follows_32 ?_
    refine r_V2 d_X10_follows_33 (c_X10_misfitsOf hr hz hz64 (ord := 1) (by omega)) rfl rfl rfl ⟨rfl, rfl⟩ (Nat.le_of_ble_eq_true rfl) ?_
    refine r_icmp_ge d_X10_follows_36 (fun c36_2 => ?_) (fun c36_2 => ?_)
    · -- taken at 36
      have c36_2 : (sp_mc 1 (fun q => A 63 (64 * r + q)) z) ≤ (sp_mc 2 (fun q => A 63 (64 * r + q)) z) := (nI_leI (a := (sp_mc 1 (fun q => A 63 (64 * r + q)) z)) (b := (sp_mc 2 (fun q => A 63 (64 * r + q)) z)) (by omega) (by omega)).mp c36_2
      refine r_iload_3 d_X10_follows_44 ?_
      refine r_istore_3 d_X10_follows_45 (Nat.le_of_ble_eq_true rfl) (fun w hw => by cases hw <;> rfl) ?_
      refine r_iinc_4 d_X10_follows_46 (Nat.le_of_ble_eq_true rfl) (fun w hw => by cases hw <;> rfl) ?_
      rw [show nI 2 + 1 = nI 3 from rfl]
      refine r_goto d_X10_follows_49 ?_
      refine r_iload_4 d_X10_follows_17 ?_
      refine r_push (v := nI 3) d_X10_follows_19 ?_
      refine r_icmp_ge d_X10_follows_20 (fun c20 => ?_) (fun c20 => absurd (by decide) c20)
      clear c20
      refine r_aload_0 d_X10_follows_52 ?_
      refine r_aload_0 d_X10_follows_53 ?_
      refine r_iload_1 d_X10_follows_54 ?_
      refine r_iload_3 d_X10_follows_55 ?_
      refine r_V2 d_X10_follows_56 (c_X10_misfitsOf hr hz hz64 (ord := 1) (by omega)) rfl rfl rfl ⟨rfl, rfl⟩ (Nat.le_of_ble_eq_true rfl) ?_
      refine r_i2l d_X10_follows_59 ?_
      rw [nI_l (n := (sp_mc 1 (fun q => A 63 (64 * r + q)) z)) (by omega)]
      refine r_put d_X10_follows_60 s10_asked rfl (Nat.le_of_ble_eq_true rfl) ⟨rfl, rfl⟩ ?_
      rw [pmM_asked]
      refine r_iload_3 d_X10_follows_63 ?_
      refine r_ireturn d_X10_follows_64 ⟨_, rfl, rfl⟩ ?_
      have efo : (sp_fo (sp_mc 0 (fun q => A 63 (64 * r + q)) z) (sp_mc 1 (fun q => A 63 (64 * r + q)) z) (sp_mc 2 (fun q => A 63 (64 * r + q)) z)) = (1, (sp_mc 1 (fun q => A 63 (64 * r + q)) z)) := by unfold sp_fo; repeat (first | rw [if_pos (by omega)] | rw [if_neg (by omega)])
      rw [efo]
      exact ⟨rfl, rfl⟩
    · -- not taken at 36
      have c36_2 : ¬ (sp_mc 1 (fun q => A 63 (64 * r + q)) z) ≤ (sp_mc 2 (fun q => A 63 (64 * r + q)) z) := fun zz9 => c36_2 ((nI_leI (a := (sp_mc 1 (fun q => A 63 (64 * r + q)) z)) (b := (sp_mc 2 (fun q => A 63 (64 * r + q)) z)) (by omega) (by omega)).mpr zz9)
      refine r_iload_4 d_X10_follows_39 ?_
      refine r_goto d_X10_follows_41 ?_
      refine r_istore_3 d_X10_follows_45 (Nat.le_of_ble_eq_true rfl) (fun w hw => by cases hw <;> rfl) ?_
      refine r_iinc_4 d_X10_follows_46 (Nat.le_of_ble_eq_true rfl) (fun w hw => by cases hw <;> rfl) ?_
      rw [show nI 2 + 1 = nI 3 from rfl]
      refine r_goto d_X10_follows_49 ?_
      refine r_iload_4 d_X10_follows_17 ?_
      refine r_push (v := nI 3) d_X10_follows_19 ?_
      refine r_icmp_ge d_X10_follows_20 (fun c20 => ?_) (fun c20 => absurd (by decide) c20)
      clear c20
      refine r_aload_0 d_X10_follows_52 ?_
      refine r_aload_0 d_X10_follows_53 ?_
      refine r_iload_1 d_X10_follows_54 ?_
      refine r_iload_3 d_X10_follows_55 ?_
      refine r_V2 d_X10_follows_56 (c_X10_misfitsOf hr hz hz64 (ord := 2) (by omega)) rfl rfl rfl ⟨rfl, rfl⟩ (Nat.le_of_ble_eq_true rfl) ?_
      refine r_i2l d_X10_follows_59 ?_
      rw [nI_l (n := (sp_mc 2 (fun q => A 63 (64 * r + q)) z)) (by omega)]
      refine r_put d_X10_follows_60 s10_asked rfl (Nat.le_of_ble_eq_true rfl) ⟨rfl, rfl⟩ ?_
      rw [pmM_asked]
      refine r_iload_3 d_X10_follows_63 ?_
      refine r_ireturn d_X10_follows_64 ⟨_, rfl, rfl⟩ ?_
      have efo : (sp_fo (sp_mc 0 (fun q => A 63 (64 * r + q)) z) (sp_mc 1 (fun q => A 63 (64 * r + q)) z) (sp_mc 2 (fun q => A 63 (64 * r + q)) z)) = (2, (sp_mc 2 (fun q => A 63 (64 * r + q)) z)) := by unfold sp_fo; repeat (first | rw [if_pos (by omega)] | rw [if_neg (by omega)])
      rw [efo]
      exact ⟨rfl, rfl⟩
