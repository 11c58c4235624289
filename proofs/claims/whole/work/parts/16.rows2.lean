theorem sp_ct_s (p : Nat → Bool) (n : Nat) : sp_ct p (n + 1) = sp_ct p n + pm_bl (p n) := rfl
theorem sp_mp_ne {ord : Nat} {v : Nat → Int32} {z i : Nat} (h : ¬ ord = 2) : sp_isM ord v z i = sp_mp ord v z i := by unfold sp_isM sp_mp; rw [if_neg h, if_neg h]
theorem sp_mp_ev {v : Nat → Int32} {z q : Nat} : sp_mp 2 v z (2 * q) = false := by
  unfold sp_mp
  rw [if_pos rfl, show 2 * q % 2 = 0 by omega]
  rfl
theorem sp_mp_od {v : Nat → Int32} {z q : Nat} : sp_mp 2 v z (2 * q + 1) = sp_isM 2 v z (2 * q) := by
  unfold sp_mp sp_isM
  rw [if_pos rfl, if_pos rfl, show (2 * q + 1) % 2 = 1 by omega, show 2 * q + 1 - 1 = 2 * q - 2 * q % 2 by omega]
  rfl
theorem sp_mp_out {v : Nat → Int32} {z i : Nat} (h : z ≤ i) : sp_mp 2 v z i = false := by
  unfold sp_mp sp_m2
  rw [if_pos rfl]
  by_cases e : i % 2 = 1
  · have : ¬ i - 1 + 1 < z := by omega
    simp [this]
  · simp [e]
theorem pm_rng {x : Int32} {n : Nat} (h0 : ¬ x < 0) (h1 : ¬ nI n ≤ x) (hn : n < 2 ^ 31) : ∃ y, y < n ∧ x = nI y := by
  obtain ⟨j, hj, e⟩ := nI_of (x := x) h0
  refine ⟨j, ?_, e⟩
  rw [e] at h1
  exact Nat.not_le.mp (fun q => h1 ((nI_leI hn hj).mpr q))
set_option maxRecDepth 10000 in
set_option maxHeartbeats 4000000 in
theorem lp_X0_misfitsIn {h : pm_H} {a l z : Nat} {v : Nat → Int32} (ha : h.2 a = some (.inr (0, [.ref l, .int (nI z)]))) (hl : h.2 l = some (at_Y 64 v)) (hz : z ≤ 64) {ord : Nat} (ho : ord ≤ 2) (hne : ¬ ord = 2) {F : Option Value → pm_H → Prop} {b : Nat × Nat}  (K : pm_V e_X0_misfitsIn 40 [some (.ref a), some (.int (nI ord)), some (.int (nI (sp_ct (sp_mp ord v z) z))), some (.int (nI z))] [] h b F) : ∀ (d i : Nat), i + d = z → pm_V e_X0_misfitsIn 4 [some (.ref a), some (.int (nI ord)), some (.int (nI (sp_ct (sp_mp ord v z) i))), some (.int (nI i))] [] h b F := by
  intro d
  induction d with
  | zero =>
    intro i hi
    rw [show i = z by omega]
    refine r_iload_3 d_X0_misfitsIn_4 ?_
    refine r_aload_0 d_X0_misfitsIn_5 ?_
    refine r_get d_X0_misfitsIn_6 s0_size ha rfl ?_
    refine r_icmp_ge d_X0_misfitsIn_9 (fun c9 => ?_) (fun c9 => ?_)
    · -- taken at 9
      have c9 : z ≤ z := (nI_leI (a := z) (b := z) (by omega) (by omega)).mp c9
      exact K
    · -- not taken at 9
      have c9 : ¬ z ≤ z := fun zz9 => c9 ((nI_leI (a := z) (b := z) (by omega) (by omega)).mpr zz9)
      exfalso; omega
  | succ d ih =>
    intro i hi
    refine r_iload_3 d_X0_misfitsIn_4 ?_
    refine r_aload_0 d_X0_misfitsIn_5 ?_
    refine r_get d_X0_misfitsIn_6 s0_size ha rfl ?_
    refine r_icmp_ge d_X0_misfitsIn_9 (fun c9 => ?_) (fun c9 => ?_)
    · -- taken at 9
      have c9 : z ≤ i := (nI_leI (a := z) (b := i) (by omega) (by omega)).mp c9
      exfalso; omega
    · -- not taken at 9
      have c9 : ¬ z ≤ i := fun zz9 => c9 ((nI_leI (a := z) (b := i) (by omega) (by omega)).mpr zz9)
      refine r_aload_0 d_X0_misfitsIn_12 ?_
      refine r_iload_3 d_X0_misfitsIn_13 ?_
      refine r_iload_1 d_X0_misfitsIn_14 ?_
      have hbl := pm_bl_le (sp_isM ord v z i)
      refine r_V2 d_X0_misfitsIn_15 (c_X0_isMisfit ha hl hz (by omega) ho) ha rfl rfl ⟨rfl, rfl⟩ (Nat.le_of_ble_eq_true rfl) ?_
      refine r_if_eq d_X0_misfitsIn_18 (fun c18 => ?_) (fun c18 => ?_)
      · -- taken at 18
        have c18 : (pm_bl (sp_isM ord v z i)) = 0 := (nI_eq (a := (pm_bl (sp_isM ord v z i))) (b := 0) (by omega) (by omega)).mp c18
        refine r_iload_3 d_X0_misfitsIn_24 ?_
        refine r_iload_1 d_X0_misfitsIn_25 ?_
        refine r_push (v := nI 2) d_X0_misfitsIn_26 ?_
        refine r_icmp_ne d_X0_misfitsIn_27 (fun c27 => ?_) (fun c27 => ?_)
        · -- taken at 27
          have c27 : ¬ ord = 2 := fun zz9 => c27 ((nI_eq (a := ord) (b := 2) (by omega) (by omega)).mpr zz9)
          refine r_push (v := nI 1) d_X0_misfitsIn_34 ?_
          refine r_iadd d_X0_misfitsIn_35 ?_
          rw [nI_add]
          refine r_istore_3 d_X0_misfitsIn_36 (Nat.le_of_ble_eq_true rfl) (fun w hw => by cases hw <;> rfl) ?_
          refine r_goto d_X0_misfitsIn_37 ?_
          have e := sp_ct_s (sp_mp ord v z) i
          rw [← sp_mp_ne (v := v) (z := z) (i := i) hne] at e
          have hct := sp_ct_le (sp_mp ord v z) i
          first
          | (rw [show sp_ct (sp_mp ord v z) i + 1 = sp_ct (sp_mp ord v z) (i + 1) by omega]; exact ih (i + 1) (by omega))
          | (rw [show sp_ct (sp_mp ord v z) i = sp_ct (sp_mp ord v z) (i + 1) by omega]; exact ih (i + 1) (by omega))
        · -- not taken at 27
          have c27 : ord = 2 := (nI_eq (a := ord) (b := 2) (by omega) (by omega)).mp c27
          exfalso; omega
      · -- not taken at 18
        have c18 : ¬ (pm_bl (sp_isM ord v z i)) = 0 := fun zz9 => c18 ((nI_eq (a := (pm_bl (sp_isM ord v z i))) (b := 0) (by omega) (by omega)).mpr zz9)
        refine r_iinc_2 d_X0_misfitsIn_21 (Nat.le_of_ble_eq_true rfl) (fun w hw => by cases hw <;> rfl) ?_
        rw [nI_1]
        refine r_iload_3 d_X0_misfitsIn_24 ?_
        refine r_iload_1 d_X0_misfitsIn_25 ?_
        refine r_push (v := nI 2) d_X0_misfitsIn_26 ?_
        refine r_icmp_ne d_X0_misfitsIn_27 (fun c27 => ?_) (fun c27 => ?_)
        · -- taken at 27
          have c27 : ¬ ord = 2 := fun zz9 => c27 ((nI_eq (a := ord) (b := 2) (by omega) (by omega)).mpr zz9)
          refine r_push (v := nI 1) d_X0_misfitsIn_34 ?_
          refine r_iadd d_X0_misfitsIn_35 ?_
          rw [nI_add]
          refine r_istore_3 d_X0_misfitsIn_36 (Nat.le_of_ble_eq_true rfl) (fun w hw => by cases hw <;> rfl) ?_
          refine r_goto d_X0_misfitsIn_37 ?_
          have e := sp_ct_s (sp_mp ord v z) i
          rw [← sp_mp_ne (v := v) (z := z) (i := i) hne] at e
          have hct := sp_ct_le (sp_mp ord v z) i
          first
          | (rw [show sp_ct (sp_mp ord v z) i + 1 = sp_ct (sp_mp ord v z) (i + 1) by omega]; exact ih (i + 1) (by omega))
          | (rw [show sp_ct (sp_mp ord v z) i = sp_ct (sp_mp ord v z) (i + 1) by omega]; exact ih (i + 1) (by omega))
        · -- not taken at 27
          have c27 : ord = 2 := (nI_eq (a := ord) (b := 2) (by omega) (by omega)).mp c27
          exfalso; omega
set_option maxRecDepth 10000 in
set_option maxHeartbeats 4000000 in
theorem lq_X0_misfitsIn {h : pm_H} {a l z : Nat} {v : Nat → Int32} (ha : h.2 a = some (.inr (0, [.ref l, .int (nI z)]))) (hl : h.2 l = some (at_Y 64 v)) (hz : z ≤ 64) {F : Option Value → pm_H → Prop} {b : Nat × Nat} (K : pm_V e_X0_misfitsIn 40 [some (.ref a), some (.int (nI 2)), some (.int (nI (sp_ct (sp_mp 2 v z) (2 * ((z + 1) / 2))))), some (.int (nI (2 * ((z + 1) / 2))))] [] h b F) : ∀ (d q : Nat), q + d = (z + 1) / 2 → pm_V e_X0_misfitsIn 4 [some (.ref a), some (.int (nI 2)), some (.int (nI (sp_ct (sp_mp 2 v z) (2 * q)))), some (.int (nI (2 * q)))] [] h b F := by
  intro d
  induction d with
  | zero =>
    intro q hq
    rw [show q = (z + 1) / 2 by omega]
    refine r_iload_3 d_X0_misfitsIn_4 ?_
    refine r_aload_0 d_X0_misfitsIn_5 ?_
    refine r_get d_X0_misfitsIn_6 s0_size ha rfl ?_
    refine r_icmp_ge d_X0_misfitsIn_9 (fun c9 => ?_) (fun c9 => ?_)
    · -- taken at 9
      have c9 : z ≤ (2 * ((z + 1) / 2)) := (nI_leI (a := z) (b := (2 * ((z + 1) / 2))) (by omega) (by omega)).mp c9
      exact K
    · -- not taken at 9
      have c9 : ¬ z ≤ (2 * ((z + 1) / 2)) := fun zz9 => c9 ((nI_leI (a := z) (b := (2 * ((z + 1) / 2))) (by omega) (by omega)).mpr zz9)
      exfalso; omega
  | succ d ih =>
    intro q hq
    refine r_iload_3 d_X0_misfitsIn_4 ?_
    refine r_aload_0 d_X0_misfitsIn_5 ?_
    refine r_get d_X0_misfitsIn_6 s0_size ha rfl ?_
    refine r_icmp_ge d_X0_misfitsIn_9 (fun c9 => ?_) (fun c9 => ?_)
    · -- taken at 9
      have c9 : z ≤ (2 * q) := (nI_leI (a := z) (b := (2 * q)) (by omega) (by omega)).mp c9
      exfalso; omega
    · -- not taken at 9
      have c9 : ¬ z ≤ (2 * q) := fun zz9 => c9 ((nI_leI (a := z) (b := (2 * q)) (by omega) (by omega)).mpr zz9)
      refine r_aload_0 d_X0_misfitsIn_12 ?_
      refine r_iload_3 d_X0_misfitsIn_13 ?_
      refine r_iload_1 d_X0_misfitsIn_14 ?_
      have hbl := pm_bl_le (sp_isM 2 v z (2 * q))
      refine r_V2 d_X0_misfitsIn_15 (c_X0_isMisfit ha hl hz (by omega) (by decide)) ha rfl rfl ⟨rfl, rfl⟩ (Nat.le_of_ble_eq_true rfl) ?_
      refine r_if_eq d_X0_misfitsIn_18 (fun c18 => ?_) (fun c18 => ?_)
      · -- taken at 18
        have c18 : (pm_bl (sp_isM 2 v z (2 * q))) = 0 := (nI_eq (a := (pm_bl (sp_isM 2 v z (2 * q)))) (b := 0) (by omega) (by omega)).mp c18
        refine r_iload_3 d_X0_misfitsIn_24 ?_
        refine r_iload_1 d_X0_misfitsIn_25 ?_
        refine r_push (v := nI 2) d_X0_misfitsIn_26 ?_
        refine r_icmp_ne d_X0_misfitsIn_27 (fun c27 => absurd (by decide) c27) (fun c27 => ?_)
        clear c27
        refine r_push (v := nI 2) d_X0_misfitsIn_30 ?_
        refine r_goto d_X0_misfitsIn_31 ?_
        refine r_iadd d_X0_misfitsIn_35 ?_
        rw [nI_add]
        refine r_istore_3 d_X0_misfitsIn_36 (Nat.le_of_ble_eq_true rfl) (fun w hw => by cases hw <;> rfl) ?_
        refine r_goto d_X0_misfitsIn_37 ?_
        have e1 := sp_ct_s (sp_mp 2 v z) (2 * q)
        have e2 := sp_ct_s (sp_mp 2 v z) (2 * q + 1)
        rw [sp_mp_ev] at e1
        rw [sp_mp_od] at e2
        rw [show pm_bl false = 0 from rfl] at e1
        have e3 : 2 * (q + 1) = 2 * q + 1 + 1 := by omega
        rw [show 2 * q + 2 = 2 * (q + 1) by omega]
        have hct := sp_ct_le (sp_mp 2 v z) (2 * q)
        first
        | (rw [show sp_ct (sp_mp 2 v z) (2 * q) + 1 = sp_ct (sp_mp 2 v z) (2 * (q + 1)) by rw [e3]; omega]; exact ih (q + 1) (by omega))
        | (rw [show sp_ct (sp_mp 2 v z) (2 * q) = sp_ct (sp_mp 2 v z) (2 * (q + 1)) by rw [e3]; omega]; exact ih (q + 1) (by omega))
      · -- not taken at 18
        have c18 : ¬ (pm_bl (sp_isM 2 v z (2 * q))) = 0 := fun zz9 => c18 ((nI_eq (a := (pm_bl (sp_isM 2 v z (2 * q)))) (b := 0) (by omega) (by omega)).mpr zz9)
        refine r_iinc_2 d_X0_misfitsIn_21 (Nat.le_of_ble_eq_true rfl) (fun w hw => by cases hw <;> rfl) ?_
        rw [nI_1]
        refine r_iload_3 d_X0_misfitsIn_24 ?_
        refine r_iload_1 d_X0_misfitsIn_25 ?_
        refine r_push (v := nI 2) d_X0_misfitsIn_26 ?_
        refine r_icmp_ne d_X0_misfitsIn_27 (fun c27 => absurd (by decide) c27) (fun c27 => ?_)
        clear c27
        refine r_push (v := nI 2) d_X0_misfitsIn_30 ?_
        refine r_goto d_X0_misfitsIn_31 ?_
        refine r_iadd d_X0_misfitsIn_35 ?_
        rw [nI_add]
        refine r_istore_3 d_X0_misfitsIn_36 (Nat.le_of_ble_eq_true rfl) (fun w hw => by cases hw <;> rfl) ?_
        refine r_goto d_X0_misfitsIn_37 ?_
        have e1 := sp_ct_s (sp_mp 2 v z) (2 * q)
        have e2 := sp_ct_s (sp_mp 2 v z) (2 * q + 1)
        rw [sp_mp_ev] at e1
        rw [sp_mp_od] at e2
        rw [show pm_bl false = 0 from rfl] at e1
        have e3 : 2 * (q + 1) = 2 * q + 1 + 1 := by omega
        rw [show 2 * q + 2 = 2 * (q + 1) by omega]
        have hct := sp_ct_le (sp_mp 2 v z) (2 * q)
        first
        | (rw [show sp_ct (sp_mp 2 v z) (2 * q) + 1 = sp_ct (sp_mp 2 v z) (2 * (q + 1)) by rw [e3]; omega]; exact ih (q + 1) (by omega))
        | (rw [show sp_ct (sp_mp 2 v z) (2 * q) = sp_ct (sp_mp 2 v z) (2 * (q + 1)) by rw [e3]; omega]; exact ih (q + 1) (by omega))
set_option maxRecDepth 10000 in
set_option maxHeartbeats 4000000 in
theorem c_X0_misfitsIn {h : pm_H} {a l z : Nat} {v : Nat → Int32} (ha : h.2 a = some (.inr (0, [.ref l, .int (nI z)]))) (hl : h.2 l = some (at_Y 64 v)) (hz : z ≤ 64) {ord : Nat} (ho : ord ≤ 2) : pm_Cv e_X0_misfitsIn [.ref a, .int (nI ord)] h (.int (nI (sp_mc ord v z))) h := by
  refine pm_enter rfl (Nat.le_of_ble_eq_true rfl) ?_
  show pm_V e_X0_misfitsIn 0 [some (.ref a), some (.int (nI ord)), none, none] [] h (0, 0) _
  refine r_push (v := nI 0) d_X0_misfitsIn_0 ?_
  refine r_istore_2 d_X0_misfitsIn_1 (Nat.le_of_ble_eq_true rfl) (fun w hw => by cases hw <;> rfl) ?_
  refine r_push (v := nI 0) d_X0_misfitsIn_2 ?_
  refine r_istore_3 d_X0_misfitsIn_3 (Nat.le_of_ble_eq_true rfl) (fun w hw => by cases hw <;> rfl) ?_
  by_cases h2 : ord = 2
  · subst h2
    refine lq_X0_misfitsIn ha hl hz ?_ ((z + 1) / 2) 0 (by omega)
    refine r_iload_2 d_X0_misfitsIn_40 ?_
    refine r_ireturn d_X0_misfitsIn_41 ⟨_, rfl, rfl⟩ ?_
    refine ⟨congrArg (fun z => some (Value.int (nI z))) ?_, rfl⟩
    unfold sp_mc
    rcases (show 2 * ((z + 1) / 2) = z ∨ 2 * ((z + 1) / 2) = z + 1 by omega) with e | e
    · rw [e]
    · rw [e, sp_ct_s, sp_mp_out (Nat.le_refl z)]; rfl
  · refine lp_X0_misfitsIn ha hl hz ho h2 ?_ z 0 (by omega)
    refine r_iload_2 d_X0_misfitsIn_40 ?_
    refine r_ireturn d_X0_misfitsIn_41 ⟨_, rfl, rfl⟩ ?_
    exact ⟨rfl, rfl⟩
theorem sp_sw_sw (v : Nat → Int32) (i j : Nat) : sp_sw (sp_sw v i j) i j = v := by
  funext q
  simp only [sp_sw, upd]
  by_cases h1 : q = j
  · by_cases h2 : i = j
    · simp [h1, h2]
    · simp [h1, h2]
  · by_cases h2 : q = i
    · subst h2; simp [h1]
    · simp [h1, h2]
theorem sp_sw_b {v : Nat → Int32} {i j : Nat} (hb : ∀ q, vp_nar .byte (v q) = v q) : ∀ q, vp_nar .byte (sp_sw v i j q) = sp_sw v i j q := by
  intro q
  simp only [sp_sw, upd]
  split
  · exact hb i
  · split
    · exact hb j
    · exact hb q
def sp_mend (ord : Nat) (v : Nat → Int32) (z i j : Nat) : Bool := sp_mc ord (sp_sw v i j) z == 0
set_option maxRecDepth 10000 in
set_option maxHeartbeats 4000000 in
theorem c_X0_isMendedBy {h : pm_H} {a l z : Nat} {v : Nat → Int32} (ha : h.2 a = some (.inr (0, [.ref l, .int (nI z)]))) (hl : h.2 l = some (at_Y 64 v)) (hz : z ≤ 64) (hal : a ≠ l) {ord i j : Nat} (ho : ord ≤ 2) (hi : i < 64) (hj : j < 64) (hb : ∀ j, vp_nar .byte (v j) = v j) : pm_Cv e_X0_isMendedBy [.ref a, .int (nI i), .int (nI j), .int (nI ord)] h (.int (nI (pm_bl (sp_mend ord v z i j)))) h := by
  have hmc : sp_mc ord (sp_sw v i j) z ≤ z := sp_ct_le _ z
  have eh : pm_up (pm_up h l (at_Y 64 (sp_sw v i j))) l (at_Y 64 (sp_sw (sp_sw v i j) i j)) = h := by rw [sp_sw_sw, pm_up_up]; exact pm_up_self hl
  refine pm_enter rfl (Nat.le_of_ble_eq_true rfl) ?_
  show pm_V e_X0_isMendedBy 0 [some (.ref a), some (.int (nI i)), some (.int (nI j)), some (.int (nI ord)), none] [] h (0, 0) _
  refine r_aload_0 d_X0_isMendedBy_0 ?_
  refine r_iload_1 d_X0_isMendedBy_1 ?_
  refine r_iload_2 d_X0_isMendedBy_2 ?_
  refine r_V2v d_X0_isMendedBy_3 (c_X0_changePlaces hal ha hl hi hj hb) ha rfl rfl ⟨rfl, rfl⟩ (Nat.le_of_ble_eq_true rfl) ?_
  refine r_aload_0 d_X0_isMendedBy_6 ?_
  refine r_iload_3 d_X0_isMendedBy_7 ?_
  refine r_V1 d_X0_isMendedBy_8 (c_X0_misfitsIn (pm_ne hal ha) pm_same hz ho) (pm_ne hal ha) rfl rfl ⟨rfl, rfl⟩ (Nat.le_of_ble_eq_true rfl) ?_
  refine r_if_ne d_X0_isMendedBy_11 (fun c11 => ?_) (fun c11 => ?_)
  · -- taken at 11
    have c11 : ¬ (sp_mc ord (sp_sw v i j) z) = 0 := fun zz9 => c11 ((nI_eq (a := (sp_mc ord (sp_sw v i j) z)) (b := 0) (by omega) (by omega)).mpr zz9)
    refine r_push (v := nI 0) d_X0_isMendedBy_18 ?_
    refine r_istore_4 d_X0_isMendedBy_19 (Nat.le_of_ble_eq_true rfl) (fun w hw => by cases hw <;> rfl) ?_
    refine r_aload_0 d_X0_isMendedBy_21 ?_
    refine r_iload_1 d_X0_isMendedBy_22 ?_
    refine r_iload_2 d_X0_isMendedBy_23 ?_
    refine r_V2v d_X0_isMendedBy_24 (c_X0_changePlaces hal (pm_ne hal ha) pm_same hi hj (sp_sw_b hb)) (pm_ne hal ha) rfl rfl ⟨rfl, rfl⟩ (Nat.le_of_ble_eq_true rfl) ?_
    rw [eh]
    refine r_iload_4 d_X0_isMendedBy_27 ?_
    refine r_ireturn d_X0_isMendedBy_29 ⟨_, rfl, rfl⟩ ?_
    exact ⟨congrArg (fun z => some (Value.int (nI z))) (by simp [pm_bl, sp_mend, c11]), rfl⟩
  · -- not taken at 11
    have c11 : (sp_mc ord (sp_sw v i j) z) = 0 := (nI_eq (a := (sp_mc ord (sp_sw v i j) z)) (b := 0) (by omega) (by omega)).mp c11
    refine r_push (v := nI 1) d_X0_isMendedBy_14 ?_
    refine r_goto d_X0_isMendedBy_15 ?_
    refine r_istore_4 d_X0_isMendedBy_19 (Nat.le_of_ble_eq_true rfl) (fun w hw => by cases hw <;> rfl) ?_
    refine r_aload_0 d_X0_isMendedBy_21 ?_
    refine r_iload_1 d_X0_isMendedBy_22 ?_
    refine r_iload_2 d_X0_isMendedBy_23 ?_
    refine r_V2v d_X0_isMendedBy_24 (c_X0_changePlaces hal (pm_ne hal ha) pm_same hi hj (sp_sw_b hb)) (pm_ne hal ha) rfl rfl ⟨rfl, rfl⟩ (Nat.le_of_ble_eq_true rfl) ?_
    rw [eh]
    refine r_iload_4 d_X0_isMendedBy_27 ?_
    refine r_ireturn d_X0_isMendedBy_29 ⟨_, rfl, rfl⟩ ?_
    exact ⟨congrArg (fun z => some (Value.int (nI z))) (by simp [pm_bl, sp_mend, c11]), rfl⟩
/-- the first place from i on, of d, that p lets -/
def sp_fd (p : Nat → Bool) : Nat → Nat → Option Nat
  | 0, _ => none
  | d + 1, i => if p i then some i else sp_fd p d (i + 1)
def sp_f2 (p : Nat → Nat → Bool) (z : Nat) : Nat → Nat → Option (Nat × Nat)
  | 0, _ => none
  | d + 1, i => match sp_fd (p i) (z - (i + 1)) (i + 1) with
    | some j => some (i, j)
    | none => sp_f2 p z d (i + 1)
def sp_msx (o : Option (Nat × Nat)) : Int32 := match o with
  | none => -9
  | some q => nI (100 * q.1 + q.2)
def sp_mX (ord : Nat) (v : Nat → Int32) (z i j : Nat) : Bool := (sp_isM ord v z i || sp_isM ord v z j) && sp_mend ord v z i j
set_option maxRecDepth 10000 in
set_option maxHeartbeats 4000000 in
theorem lj_X0_mendingSwap {h : pm_H} {a l z : Nat} {v : Nat → Int32} (ha : h.2 a = some (.inr (0, [.ref l, .int (nI z)]))) (hl : h.2 l = some (at_Y 64 v)) (hz : z ≤ 64) (hal : a ≠ l) {ord mm : Nat} (ho : ord ≤ 2) (hb : ∀ j, vp_nar .byte (v j) = v j) {F : Option Value → pm_H → Prop} {b : Nat × Nat} {i : Nat} (hi : i < z) (K : ∀ o4, sp_fd (sp_mX ord v z i) (z - (i + 1)) (i + 1) = none → pm_V e_X0_mendingSwap 88 [some (.ref a), some (.int (nI ord)), some (.int (nI mm)), some (.int (nI i)), o4] [] h b F) (KF : ∀ j, sp_fd (sp_mX ord v z i) (z - (i + 1)) (i + 1) = some j → F (some (.int (nI (100 * i + j)))) h) : ∀ (d j : Nat), j + d = z → i < j → sp_fd (sp_mX ord v z i) (z - (i + 1)) (i + 1) = sp_fd (sp_mX ord v z i) d j → pm_V e_X0_mendingSwap 35 [some (.ref a), some (.int (nI ord)), some (.int (nI mm)), some (.int (nI i)), some (.int (nI j))] [] h b F := by
  intro d
  induction d with
  | zero =>
    intro j hj hij he
    rw [show j = z by omega]
    refine r_iload_4 d_X0_mendingSwap_35 ?_
    refine r_aload_0 d_X0_mendingSwap_37 ?_
    refine r_get d_X0_mendingSwap_38 s0_size ha rfl ?_
    refine r_icmp_ge d_X0_mendingSwap_41 (fun c41 => ?_) (fun c41 => ?_)
    · -- taken at 41
      have c41 : z ≤ z := (nI_leI (a := z) (b := z) (by omega) (by omega)).mp c41
      exact K _ he
    · -- not taken at 41
      have c41 : ¬ z ≤ z := fun zz9 => c41 ((nI_leI (a := z) (b := z) (by omega) (by omega)).mpr zz9)
      exfalso; omega
  | succ d ih =>
    intro j hj hij he
    have hq : sp_fd (sp_mX ord v z i) (d + 1) j = if sp_mX ord v z i j then some j else sp_fd (sp_mX ord v z i) d (j + 1) := rfl
    rw [hq] at he
    have nx : sp_mX ord v z i j = false → pm_V e_X0_mendingSwap 82 [some (.ref a), some (.int (nI ord)), some (.int (nI mm)), some (.int (nI i)), some (.int (nI j))] [] h b F := by
      intro hx
      rw [hx] at he
      refine r_iinc_4 d_X0_mendingSwap_82 (Nat.le_of_ble_eq_true rfl) (fun w hw => by cases hw <;> rfl) ?_
      rw [nI_1]
      refine r_goto d_X0_mendingSwap_85 ?_
      exact ih (j + 1) (by omega) (by omega) he
    refine r_iload_4 d_X0_mendingSwap_35 ?_
    refine r_aload_0 d_X0_mendingSwap_37 ?_
    refine r_get d_X0_mendingSwap_38 s0_size ha rfl ?_
    refine r_icmp_ge d_X0_mendingSwap_41 (fun c41 => ?_) (fun c41 => ?_)
    · -- taken at 41
      have c41 : z ≤ j := (nI_leI (a := z) (b := j) (by omega) (by omega)).mp c41
      exfalso; omega
    · -- not taken at 41
      have c41 : ¬ z ≤ j := fun zz9 => c41 ((nI_leI (a := z) (b := j) (by omega) (by omega)).mpr zz9)
      refine r_aload_0 d_X0_mendingSwap_44 ?_
      refine r_iload_3 d_X0_mendingSwap_45 ?_
      refine r_iload_1 d_X0_mendingSwap_46 ?_
      have hbl := pm_bl_le (sp_isM ord v z i)
      refine r_V2 d_X0_mendingSwap_47 (c_X0_isMisfit ha hl hz (by omega) ho) ha rfl rfl ⟨rfl, rfl⟩ (Nat.le_of_ble_eq_true rfl) ?_
      refine r_if_ne d_X0_mendingSwap_50 (fun c50 => ?_) (fun c50 => ?_)
      · -- taken at 50
        have c50 : ¬ (pm_bl (sp_isM ord v z i)) = 0 := fun zz9 => c50 ((nI_eq (a := (pm_bl (sp_isM ord v z i))) (b := 0) (by omega) (by omega)).mpr zz9)
        have m1 : (sp_isM ord v z i || sp_isM ord v z j) = true := by rw [pm_bl1 c50]; rfl
        refine r_aload_0 d_X0_mendingSwap_63 ?_
        refine r_iload_3 d_X0_mendingSwap_64 ?_
        refine r_iload_4 d_X0_mendingSwap_65 ?_
        refine r_iload_1 d_X0_mendingSwap_67 ?_
        have hbl := pm_bl_le (sp_mend ord v z i j)
        refine r_V3 d_X0_mendingSwap_68 (c_X0_isMendedBy ha hl hz hal ho (by omega) (by omega) hb) ha rfl rfl ⟨rfl, rfl⟩ (Nat.le_of_ble_eq_true rfl) ?_
        refine r_if_eq d_X0_mendingSwap_71 (fun c71 => ?_) (fun c71 => ?_)
        · -- taken at 71
          have c71 : (pm_bl (sp_mend ord v z i j)) = 0 := (nI_eq (a := (pm_bl (sp_mend ord v z i j))) (b := 0) (by omega) (by omega)).mp c71
          have hx : sp_mX ord v z i j = false := by unfold sp_mX; rw [pm_bl0.mp c71]; simp
          exact nx hx
        · -- not taken at 71
          have c71 : ¬ (pm_bl (sp_mend ord v z i j)) = 0 := fun zz9 => c71 ((nI_eq (a := (pm_bl (sp_mend ord v z i j))) (b := 0) (by omega) (by omega)).mpr zz9)
          have hx : sp_mX ord v z i j = true := by unfold sp_mX; rw [m1, pm_bl1 c71]; rfl
          rw [hx] at he
          refine r_push (v := nI 100) d_X0_mendingSwap_74 ?_
          refine r_iload_3 d_X0_mendingSwap_76 ?_
          refine r_imul d_X0_mendingSwap_77 ?_
          rw [pk_mul]
          refine r_iload_4 d_X0_mendingSwap_78 ?_
          refine r_iadd d_X0_mendingSwap_80 ?_
          rw [nI_add]
          refine r_ireturn d_X0_mendingSwap_81 ⟨_, rfl, rfl⟩ ?_
          exact KF j he
      · -- not taken at 50
        have c50 : (pm_bl (sp_isM ord v z i)) = 0 := (nI_eq (a := (pm_bl (sp_isM ord v z i))) (b := 0) (by omega) (by omega)).mp c50
        refine r_aload_0 d_X0_mendingSwap_53 ?_
        refine r_iload_4 d_X0_mendingSwap_54 ?_
        refine r_iload_1 d_X0_mendingSwap_56 ?_
        have hbl := pm_bl_le (sp_isM ord v z j)
        refine r_V2 d_X0_mendingSwap_57 (c_X0_isMisfit ha hl hz (by omega) ho) ha rfl rfl ⟨rfl, rfl⟩ (Nat.le_of_ble_eq_true rfl) ?_
        refine r_if_eq d_X0_mendingSwap_60 (fun c60 => ?_) (fun c60 => ?_)
        · -- taken at 60
          have c60 : (pm_bl (sp_isM ord v z j)) = 0 := (nI_eq (a := (pm_bl (sp_isM ord v z j))) (b := 0) (by omega) (by omega)).mp c60
          have hx : sp_mX ord v z i j = false := by unfold sp_mX; rw [pm_bl0.mp c50, pm_bl0.mp c60]; rfl
          exact nx hx
        · -- not taken at 60
          have c60 : ¬ (pm_bl (sp_isM ord v z j)) = 0 := fun zz9 => c60 ((nI_eq (a := (pm_bl (sp_isM ord v z j))) (b := 0) (by omega) (by omega)).mpr zz9)
          have m1 : (sp_isM ord v z i || sp_isM ord v z j) = true := by rw [pm_bl1 c60]; simp
          refine r_aload_0 d_X0_mendingSwap_63 ?_
          refine r_iload_3 d_X0_mendingSwap_64 ?_
          refine r_iload_4 d_X0_mendingSwap_65 ?_
          refine r_iload_1 d_X0_mendingSwap_67 ?_
          have hbl := pm_bl_le (sp_mend ord v z i j)
          refine r_V3 d_X0_mendingSwap_68 (c_X0_isMendedBy ha hl hz hal ho (by omega) (by omega) hb) ha rfl rfl ⟨rfl, rfl⟩ (Nat.le_of_ble_eq_true rfl) ?_
          refine r_if_eq d_X0_mendingSwap_71 (fun c71 => ?_) (fun c71 => ?_)
          · -- taken at 71
            have c71 : (pm_bl (sp_mend ord v z i j)) = 0 := (nI_eq (a := (pm_bl (sp_mend ord v z i j))) (b := 0) (by omega) (by omega)).mp c71
            have hx : sp_mX ord v z i j = false := by unfold sp_mX; rw [pm_bl0.mp c71]; simp
            exact nx hx
          · -- not taken at 71
            have c71 : ¬ (pm_bl (sp_mend ord v z i j)) = 0 := fun zz9 => c71 ((nI_eq (a := (pm_bl (sp_mend ord v z i j))) (b := 0) (by omega) (by omega)).mpr zz9)
            have hx : sp_mX ord v z i j = true := by unfold sp_mX; rw [m1, pm_bl1 c71]; rfl
            rw [hx] at he
            refine r_push (v := nI 100) d_X0_mendingSwap_74 ?_
            refine r_iload_3 d_X0_mendingSwap_76 ?_
            refine r_imul d_X0_mendingSwap_77 ?_
            rw [pk_mul]
            refine r_iload_4 d_X0_mendingSwap_78 ?_
            refine r_iadd d_X0_mendingSwap_80 ?_
            rw [nI_add]
            refine r_ireturn d_X0_mendingSwap_81 ⟨_, rfl, rfl⟩ ?_
            exact KF j he
set_option maxRecDepth 10000 in
set_option maxHeartbeats 4000000 in
theorem li_X0_mendingSwap {h : pm_H} {a l z : Nat} {v : Nat → Int32} (ha : h.2 a = some (.inr (0, [.ref l, .int (nI z)]))) (hl : h.2 l = some (at_Y 64 v)) (hz : z ≤ 64) (hal : a ≠ l) {ord mm : Nat} (ho : ord ≤ 2) (hb : ∀ j, vp_nar .byte (v j) = v j) {F : Option Value → pm_H → Prop} {b : Nat × Nat} (KF : F (some (.int (sp_msx (sp_f2 (sp_mX ord v z) z z 0)))) h) : ∀ (d i : Nat) (o4 : Option Value), i + d = z → sp_f2 (sp_mX ord v z) z z 0 = sp_f2 (sp_mX ord v z) z d i → pm_V e_X0_mendingSwap 22 [some (.ref a), some (.int (nI ord)), some (.int (nI mm)), some (.int (nI i)), o4] [] h b F := by
  intro d
  induction d with
  | zero =>
    intro i o4 hi he
    rw [show i = z by omega]
    refine r_iload_3 d_X0_mendingSwap_22 ?_
    refine r_aload_0 d_X0_mendingSwap_23 ?_
    refine r_get d_X0_mendingSwap_24 s0_size ha rfl ?_
    refine r_icmp_ge d_X0_mendingSwap_27 (fun c27 => ?_) (fun c27 => ?_)
    · -- taken at 27
      have c27 : z ≤ z := (nI_leI (a := z) (b := z) (by omega) (by omega)).mp c27
      refine r_push d_X0_mendingSwap_94 ?_
      refine r_ireturn d_X0_mendingSwap_96 ⟨_, rfl, rfl⟩ ?_
      rw [he] at KF
      exact KF
    · -- not taken at 27
      have c27 : ¬ z ≤ z := fun zz9 => c27 ((nI_leI (a := z) (b := z) (by omega) (by omega)).mpr zz9)
      exfalso; omega
  | succ d ih =>
    intro i o4 hi he
    have hq : sp_f2 (sp_mX ord v z) z (d + 1) i = match sp_fd (sp_mX ord v z i) (z - (i + 1)) (i + 1) with
      | some j => some (i, j)
      | none => sp_f2 (sp_mX ord v z) z d (i + 1) := rfl
    refine r_iload_3 d_X0_mendingSwap_22 ?_
    refine r_aload_0 d_X0_mendingSwap_23 ?_
    refine r_get d_X0_mendingSwap_24 s0_size ha rfl ?_
    refine r_icmp_ge d_X0_mendingSwap_27 (fun c27 => ?_) (fun c27 => ?_)
    · -- taken at 27
      have c27 : z ≤ i := (nI_leI (a := z) (b := i) (by omega) (by omega)).mp c27
      exfalso; omega
    · -- not taken at 27
      have c27 : ¬ z ≤ i := fun zz9 => c27 ((nI_leI (a := z) (b := i) (by omega) (by omega)).mpr zz9)
      refine r_iload_3 d_X0_mendingSwap_30 ?_
      refine r_push (v := nI 1) d_X0_mendingSwap_31 ?_
      refine r_iadd d_X0_mendingSwap_32 ?_
      rw [nI_add]
      refine r_istore_4 d_X0_mendingSwap_33 (Nat.le_of_ble_eq_true rfl) (fun w hw => by cases hw <;> rfl) ?_
      refine lj_X0_mendingSwap ha hl hz hal ho hb (by omega) (fun o4 hn => ?_) (fun j hs => ?_) (z - (i + 1)) (i + 1) (by omega) (by omega) rfl
      · rw [hn] at hq
        refine r_iinc_3 d_X0_mendingSwap_88 (Nat.le_of_ble_eq_true rfl) (fun w hw => by cases hw <;> rfl) ?_
        rw [nI_1]
        refine r_goto d_X0_mendingSwap_91 ?_
        exact ih (i + 1) _ (by omega) (he.trans hq)
      · rw [hs] at hq
        rw [he.trans hq] at KF
        exact KF
set_option maxRecDepth 10000 in
set_option maxHeartbeats 4000000 in
theorem c_X0_mendingSwap {h : pm_H} {a l z : Nat} {v : Nat → Int32} (ha : h.2 a = some (.inr (0, [.ref l, .int (nI z)]))) (hl : h.2 l = some (at_Y 64 v)) (hz : z ≤ 64) (hal : a ≠ l) {ord : Nat} (ho : ord ≤ 2) (hb : ∀ j, vp_nar .byte (v j) = v j) : pm_Cv e_X0_mendingSwap [.ref a, .int (nI ord)] h (.int (if sp_mc ord v z = 0 then 0 else if 2 < sp_mc ord v z then -9 else sp_msx (sp_f2 (sp_mX ord v z) z z 0))) h := by
  have hmc : sp_mc ord v z ≤ z := sp_ct_le _ z
  refine pm_enter rfl (Nat.le_of_ble_eq_true rfl) ?_
  show pm_V e_X0_mendingSwap 0 [some (.ref a), some (.int (nI ord)), none, none, none] [] h (0, 0) _
  refine r_aload_0 d_X0_mendingSwap_0 ?_
  refine r_iload_1 d_X0_mendingSwap_1 ?_
  refine r_V1 d_X0_mendingSwap_2 (c_X0_misfitsIn ha hl hz ho) ha rfl rfl ⟨rfl, rfl⟩ (Nat.le_of_ble_eq_true rfl) ?_
  refine r_istore_2 d_X0_mendingSwap_5 (Nat.le_of_ble_eq_true rfl) (fun w hw => by cases hw <;> rfl) ?_
  refine r_iload_2 d_X0_mendingSwap_6 ?_
  refine r_if_ne d_X0_mendingSwap_7 (fun c7 => ?_) (fun c7 => ?_)
  · -- taken at 7
    have c7 : ¬ (sp_mc ord v z) = 0 := fun zz9 => c7 ((nI_eq (a := (sp_mc ord v z)) (b := 0) (by omega) (by omega)).mpr zz9)
    refine r_iload_2 d_X0_mendingSwap_12 ?_
    refine r_push (v := nI 2) d_X0_mendingSwap_13 ?_
    refine r_icmp_le d_X0_mendingSwap_14 (fun c14 => ?_) (fun c14 => ?_)
    · -- taken at 14
      have c14 : (sp_mc ord v z) ≤ 2 := (nI_leI (a := (sp_mc ord v z)) (b := 2) (by omega) (by omega)).mp c14
      refine r_push (v := nI 0) d_X0_mendingSwap_20 ?_
      refine r_istore_3 d_X0_mendingSwap_21 (Nat.le_of_ble_eq_true rfl) (fun w hw => by cases hw <;> rfl) ?_
      rw [if_neg c7, if_neg (by omega)]
      exact li_X0_mendingSwap ha hl hz hal ho hb ⟨rfl, rfl⟩ z 0 none (by omega) rfl
    · -- not taken at 14
      have c14 : ¬ (sp_mc ord v z) ≤ 2 := fun zz9 => c14 ((nI_leI (a := (sp_mc ord v z)) (b := 2) (by omega) (by omega)).mpr zz9)
      refine r_push d_X0_mendingSwap_17 ?_
      refine r_ireturn d_X0_mendingSwap_19 ⟨_, rfl, rfl⟩ ?_
      rw [if_neg c7, if_pos (by omega)]
      exact ⟨rfl, rfl⟩
  · -- not taken at 7
    have c7 : (sp_mc ord v z) = 0 := (nI_eq (a := (sp_mc ord v z)) (b := 0) (by omega) (by omega)).mp c7
    refine r_push (v := nI 0) d_X0_mendingSwap_10 ?_
    refine r_ireturn d_X0_mendingSwap_11 ⟨_, rfl, rfl⟩ ?_
    rw [if_pos c7]
    exact ⟨rfl, rfl⟩
