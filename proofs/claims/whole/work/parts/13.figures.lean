/-! figures -/
def sp_b (g : Nat → Nat) : Nat → Nat
  | 0 => 0
  | i + 1 => sp_b g i + (g i % 2) * 2 ^ i
theorem sp_b_lt (g : Nat → Nat) : ∀ i, sp_b g i < 2 ^ i
  | 0 => by simp [sp_b]
  | i + 1 => by
    have := sp_b_lt g i
    have h2 : 2 ^ (i + 1) = 2 * 2 ^ i := by rw [Nat.pow_succ]; omega
    have h3 : g i % 2 = 0 ∨ g i % 2 = 1 := by omega
    simp only [sp_b]
    rcases h3 with z | z <;> rw [z] <;> omega
theorem sp_b_1 {g : Nat → Nat} {i : Nat} (h : g i % 2 = 1) : sp_b g (i + 1) = sp_b g i + 2 ^ i := by simp [sp_b, h]
theorem sp_b_0 {g : Nat → Nat} {i : Nat} (h : g i % 2 = 0) : sp_b g (i + 1) = sp_b g i := by simp [sp_b, h]
theorem pm_orb : ∀ i, i < 6 → ∀ x, x < 2 ^ i → nI x ||| (nI 1 <<< (nI i &&& 31)) = nI (x + 2 ^ i) := by decide +kernel
def sp_o (x : Nat) : Nat := if x = 6 ∨ x = 9 then 1 else 0
def sp_old (g : Nat → Nat) : Nat → Nat
  | 0 => 0
  | i + 1 => sp_old g i + sp_o (g i)
theorem sp_old_le (g : Nat → Nat) : ∀ i, sp_old g i ≤ i
  | 0 => Nat.le_refl _
  | i + 1 => by
    have := sp_old_le g i
    have h : sp_o (g i) ≤ 1 := by unfold sp_o; split <;> omega
    simp only [sp_old]
    omega
theorem sp_b_cong {g g' : Nat → Nat} : ∀ {i : Nat}, (∀ j, j < i → g j = g' j) → sp_b g i = sp_b g' i
  | 0, _ => rfl
  | i + 1, h => by simp only [sp_b]; rw [sp_b_cong (i := i) (fun j hj => h j (by omega)), h i (by omega)]
theorem sp_old_cong {g g' : Nat → Nat} : ∀ {i : Nat}, (∀ j, j < i → g j = g' j) → sp_old g i = sp_old g' i
  | 0, _ => rfl
  | i + 1, h => by simp only [sp_old]; rw [sp_old_cong (i := i) (fun j hj => h j (by omega)), h i (by omega)]
theorem c_X9_isOldN {h : pm_H} {x : Nat} (hx : x ≤ 30) : pm_Cv e_X9_isOld [.int (nI x)] h (.int (nI (sp_o x))) h := by
  refine c_X9_isOld.mono (fun v h1 z => ⟨?_, z.2⟩)
  rw [z.1]
  refine congrArg (fun z => some (Value.int z)) ?_
  clear z
  revert hx; revert x; decide +kernel
set_option maxRecDepth 10000 in
set_option maxHeartbeats 4000000 in
theorem lp_X3_bits {h : pm_H} {a l : Nat} {f : Nat → Int32} {g : Nat → Nat} (ha : h.2 a = some (.inr (3, [.ref l]))) (hl : h.2 l = some (at_I 6 f)) (hf : ∀ j, j < 6 → f j = nI (g j)) (hg : ∀ j, j < 6 → 6 ≤ g j ∧ g j ≤ 9) {F : Option Value → pm_H → Prop} {b : Nat × Nat}  (K : pm_V e_X3_bits 44 [some (.ref a), some (.int (nI (sp_b g 6))), some (.int (nI 6))] [] h b F) : ∀ (d i : Nat), i + d = 6 → pm_V e_X3_bits 4 [some (.ref a), some (.int (nI (sp_b g i))), some (.int (nI i))] [] h b F := by
  intro d
  induction d with
  | zero =>
    intro i hi
    obtain rfl : i = 6 := by omega
    refine r_iload_2 d_X3_bits_4 ?_
    refine r_push (v := nI 6) d_X3_bits_5 ?_
    refine r_icmp_ge d_X3_bits_7 (fun c7 => ?_) (fun c7 => absurd (by decide) c7)
    clear c7
    exact K
  | succ d ih =>
    intro i hi
    refine r_iload_2 d_X3_bits_4 ?_
    refine r_push (v := nI 6) d_X3_bits_5 ?_
    refine r_icmp_ge d_X3_bits_7 (fun c7 => ?_) (fun c7 => ?_)
    · -- taken at 7
      have c7 : 6 ≤ i := (nI_leI (a := 6) (b := i) (by omega) (by omega)).mp c7
      exfalso; omega
    · -- not taken at 7
      have c7 : ¬ 6 ≤ i := fun zz9 => c7 ((nI_leI (a := 6) (b := i) (by omega) (by omega)).mpr zz9)
      refine r_aload_0 d_X3_bits_10 ?_
      refine r_get d_X3_bits_11 s3_lines ha rfl ?_
      refine r_iload_2 d_X3_bits_14 ?_
      have hgi := hg i (by omega)
      refine r_iald d_X3_bits_15 hl (pm_ixN (by omega) (by omega)) ?_
      rw [hf i (by omega)]
      refine r_push (v := nI 7) d_X3_bits_16 ?_
      refine r_icmp_eq d_X3_bits_18 (fun c18 => ?_) (fun c18 => ?_)
      · -- taken at 18
        have c18 : (g i) = 7 := (nI_eq (a := (g i)) (b := 7) (by omega) (by omega)).mp c18
        refine r_iload_1 d_X3_bits_32 ?_
        refine r_push (v := nI 1) d_X3_bits_33 ?_
        refine r_iload_2 d_X3_bits_34 ?_
        refine r_ishl d_X3_bits_35 ?_
        refine r_ior d_X3_bits_36 ?_
        refine r_istore_1 d_X3_bits_37 (Nat.le_of_ble_eq_true rfl) (fun w hw => by cases hw <;> rfl) ?_
        refine r_iinc_2 d_X3_bits_38 (Nat.le_of_ble_eq_true rfl) (fun w hw => by cases hw <;> rfl) ?_
        rw [nI_1]
        refine r_goto d_X3_bits_41 ?_
        first
        | (rw [pm_orb i (by omega) _ (sp_b_lt g i), ← sp_b_1 (by omega)]; exact ih (i + 1) (by omega))
        | (rw [← sp_b_0 (g := g) (i := i) (by omega)]; exact ih (i + 1) (by omega))
      · -- not taken at 18
        have c18 : ¬ (g i) = 7 := fun zz9 => c18 ((nI_eq (a := (g i)) (b := 7) (by omega) (by omega)).mpr zz9)
        refine r_aload_0 d_X3_bits_21 ?_
        refine r_get d_X3_bits_22 s3_lines ha rfl ?_
        refine r_iload_2 d_X3_bits_25 ?_
        refine r_iald d_X3_bits_26 hl (pm_ixN (by omega) (by omega)) ?_
        rw [hf i (by omega)]
        refine r_push (v := nI 9) d_X3_bits_27 ?_
        refine r_icmp_ne d_X3_bits_29 (fun c29 => ?_) (fun c29 => ?_)
        · -- taken at 29
          have c29 : ¬ (g i) = 9 := fun zz9 => c29 ((nI_eq (a := (g i)) (b := 9) (by omega) (by omega)).mpr zz9)
          refine r_iinc_2 d_X3_bits_38 (Nat.le_of_ble_eq_true rfl) (fun w hw => by cases hw <;> rfl) ?_
          rw [nI_1]
          refine r_goto d_X3_bits_41 ?_
          first
          | (rw [pm_orb i (by omega) _ (sp_b_lt g i), ← sp_b_1 (by omega)]; exact ih (i + 1) (by omega))
          | (rw [← sp_b_0 (g := g) (i := i) (by omega)]; exact ih (i + 1) (by omega))
        · -- not taken at 29
          have c29 : (g i) = 9 := (nI_eq (a := (g i)) (b := 9) (by omega) (by omega)).mp c29
          refine r_iload_1 d_X3_bits_32 ?_
          refine r_push (v := nI 1) d_X3_bits_33 ?_
          refine r_iload_2 d_X3_bits_34 ?_
          refine r_ishl d_X3_bits_35 ?_
          refine r_ior d_X3_bits_36 ?_
          refine r_istore_1 d_X3_bits_37 (Nat.le_of_ble_eq_true rfl) (fun w hw => by cases hw <;> rfl) ?_
          refine r_iinc_2 d_X3_bits_38 (Nat.le_of_ble_eq_true rfl) (fun w hw => by cases hw <;> rfl) ?_
          rw [nI_1]
          refine r_goto d_X3_bits_41 ?_
          first
          | (rw [pm_orb i (by omega) _ (sp_b_lt g i), ← sp_b_1 (by omega)]; exact ih (i + 1) (by omega))
          | (rw [← sp_b_0 (g := g) (i := i) (by omega)]; exact ih (i + 1) (by omega))
set_option maxRecDepth 10000 in
set_option maxHeartbeats 4000000 in
theorem c_X3_bits {h : pm_H} {a l : Nat} {f : Nat → Int32} {g : Nat → Nat} (ha : h.2 a = some (.inr (3, [.ref l]))) (hl : h.2 l = some (at_I 6 f)) (hf : ∀ j, j < 6 → f j = nI (g j)) (hg : ∀ j, j < 6 → 6 ≤ g j ∧ g j ≤ 9) : pm_Cv e_X3_bits [.ref a] h (.int (nI (sp_b g 6))) h := by
  refine pm_enter rfl (Nat.le_of_ble_eq_true rfl) ?_
  show pm_V e_X3_bits 0 [some (.ref a), none, none] [] h (0, 0) _
  refine r_push (v := nI 0) d_X3_bits_0 ?_
  refine r_istore_1 d_X3_bits_1 (Nat.le_of_ble_eq_true rfl) (fun w hw => by cases hw <;> rfl) ?_
  refine r_push (v := nI 0) d_X3_bits_2 ?_
  refine r_istore_2 d_X3_bits_3 (Nat.le_of_ble_eq_true rfl) (fun w hw => by cases hw <;> rfl) ?_
  refine lp_X3_bits ha hl hf hg ?_ 6 0 (by omega)
  refine r_iload_1 d_X3_bits_44 ?_
  refine r_ireturn d_X3_bits_45 ⟨_, rfl, rfl⟩ ?_
  exact ⟨rfl, rfl⟩
set_option maxRecDepth 10000 in
set_option maxHeartbeats 4000000 in
theorem lp_X3_oldLines {h : pm_H} {a l : Nat} {f : Nat → Int32} {g : Nat → Nat} (ha : h.2 a = some (.inr (3, [.ref l]))) (hl : h.2 l = some (at_I 6 f)) (hf : ∀ j, j < 6 → f j = nI (g j)) (hg : ∀ j, j < 6 → g j ≤ 30) {F : Option Value → pm_H → Prop} {b : Nat × Nat}  (K : pm_V e_X3_oldLines 31 [some (.ref a), some (.int (nI (sp_old g 6))), some (.int (nI 6))] [] h b F) : ∀ (d i : Nat), i + d = 6 → pm_V e_X3_oldLines 4 [some (.ref a), some (.int (nI (sp_old g i))), some (.int (nI i))] [] h b F := by
  intro d
  induction d with
  | zero =>
    intro i hi
    obtain rfl : i = 6 := by omega
    refine r_iload_2 d_X3_oldLines_4 ?_
    refine r_push (v := nI 6) d_X3_oldLines_5 ?_
    refine r_icmp_ge d_X3_oldLines_7 (fun c7 => ?_) (fun c7 => absurd (by decide) c7)
    clear c7
    exact K
  | succ d ih =>
    intro i hi
    refine r_iload_2 d_X3_oldLines_4 ?_
    refine r_push (v := nI 6) d_X3_oldLines_5 ?_
    refine r_icmp_ge d_X3_oldLines_7 (fun c7 => ?_) (fun c7 => ?_)
    · -- taken at 7
      have c7 : 6 ≤ i := (nI_leI (a := 6) (b := i) (by omega) (by omega)).mp c7
      exfalso; omega
    · -- not taken at 7
      have c7 : ¬ 6 ≤ i := fun zz9 => c7 ((nI_leI (a := 6) (b := i) (by omega) (by omega)).mpr zz9)
      refine r_aload_0 d_X3_oldLines_10 ?_
      refine r_get d_X3_oldLines_11 s3_lines ha rfl ?_
      refine r_iload_2 d_X3_oldLines_14 ?_
      have hgi := hg i (by omega)
      have ho : sp_o (g i) ≤ 1 := by unfold sp_o; split <;> omega
      have hq := sp_old_le g i
      refine r_iald d_X3_oldLines_15 hl (pm_ixN (by omega) (by omega)) ?_
      rw [hf i (by omega)]
      refine r_S1 d_X3_oldLines_16 (c_X9_isOldN hgi) ⟨rfl, rfl⟩ (Nat.le_of_ble_eq_true rfl) ?_
      refine r_if_eq d_X3_oldLines_19 (fun c19 => ?_) (fun c19 => ?_)
      · -- taken at 19
        have c19 : (sp_o (g i)) = 0 := (nI_eq (a := (sp_o (g i))) (b := 0) (by omega) (by omega)).mp c19
        refine r_iinc_2 d_X3_oldLines_25 (Nat.le_of_ble_eq_true rfl) (fun w hw => by cases hw <;> rfl) ?_
        rw [nI_1]
        refine r_goto d_X3_oldLines_28 ?_
        have e : sp_old g (i + 1) = sp_old g i + sp_o (g i) := rfl
        first
        | (rw [show sp_old g i + 1 = sp_old g (i + 1) by omega]; exact ih (i + 1) (by omega))
        | (rw [show sp_old g i = sp_old g (i + 1) by omega]; exact ih (i + 1) (by omega))
      · -- not taken at 19
        have c19 : ¬ (sp_o (g i)) = 0 := fun zz9 => c19 ((nI_eq (a := (sp_o (g i))) (b := 0) (by omega) (by omega)).mpr zz9)
        refine r_iinc_1 d_X3_oldLines_22 (Nat.le_of_ble_eq_true rfl) (fun w hw => by cases hw <;> rfl) ?_
        rw [nI_1]
        refine r_iinc_2 d_X3_oldLines_25 (Nat.le_of_ble_eq_true rfl) (fun w hw => by cases hw <;> rfl) ?_
        rw [nI_1]
        refine r_goto d_X3_oldLines_28 ?_
        have e : sp_old g (i + 1) = sp_old g i + sp_o (g i) := rfl
        first
        | (rw [show sp_old g i + 1 = sp_old g (i + 1) by omega]; exact ih (i + 1) (by omega))
        | (rw [show sp_old g i = sp_old g (i + 1) by omega]; exact ih (i + 1) (by omega))
set_option maxRecDepth 10000 in
set_option maxHeartbeats 4000000 in
theorem c_X3_oldLines {h : pm_H} {a l : Nat} {f : Nat → Int32} {g : Nat → Nat} (ha : h.2 a = some (.inr (3, [.ref l]))) (hl : h.2 l = some (at_I 6 f)) (hf : ∀ j, j < 6 → f j = nI (g j)) (hg : ∀ j, j < 6 → g j ≤ 30) : pm_Cv e_X3_oldLines [.ref a] h (.int (nI (sp_old g 6))) h := by
  refine pm_enter rfl (Nat.le_of_ble_eq_true rfl) ?_
  show pm_V e_X3_oldLines 0 [some (.ref a), none, none] [] h (0, 0) _
  refine r_push (v := nI 0) d_X3_oldLines_0 ?_
  refine r_istore_1 d_X3_oldLines_1 (Nat.le_of_ble_eq_true rfl) (fun w hw => by cases hw <;> rfl) ?_
  refine r_push (v := nI 0) d_X3_oldLines_2 ?_
  refine r_istore_2 d_X3_oldLines_3 (Nat.le_of_ble_eq_true rfl) (fun w hw => by cases hw <;> rfl) ?_
  refine lp_X3_oldLines ha hl hf hg ?_ 6 0 (by omega)
  refine r_iload_1 d_X3_oldLines_31 ?_
  refine r_ireturn d_X3_oldLines_32 ⟨_, rfl, rfl⟩ ?_
  exact ⟨rfl, rfl⟩
set_option maxRecDepth 10000 in
set_option maxHeartbeats 4000000 in
theorem c_X3_become {h : pm_H} {a l o m : Nat} {f f2 : Nat → Int32} (ha : h.2 a = some (.inr (3, [.ref l]))) (ho : h.2 o = some (.inr (3, [.ref m]))) (hl : h.2 l = some (at_I 6 f)) (hm : h.2 m = some (at_I 6 f2)) : pm_C0 e_X3_become [.ref a, .ref o] h (pm_up h l (at_I 6 (va_cpy f2 f 0 0 6))) := by
  refine pm_enter rfl (Nat.le_of_ble_eq_true rfl) ?_
  show pm_V e_X3_become 0 [some (.ref a), some (.ref o)] [] h (0, 0) _
  refine r_aload_1 d_X3_become_0 ?_
  refine r_get d_X3_become_1 s3_lines ho rfl ?_
  refine r_push (v := nI 0) d_X3_become_4 ?_
  refine r_aload_0 d_X3_become_5 ?_
  refine r_get d_X3_become_6 s3_lines ha rfl ?_
  refine r_push (v := nI 0) d_X3_become_9 ?_
  refine r_push (v := nI 6) d_X3_become_10 ?_
  refine r_copyi (t0 := 0) (sp := 0) (dp := 0) (k := 6) d_X3_become_12 wm_487 wm_419 wm_418 wm_55 rfl rfl hm hl ⟨by decide, by decide⟩ ⟨by decide, by decide⟩ ⟨by decide, by decide⟩ (by decide) (by decide) (fun i hi => rfl) (by decide) (by decide +kernel) ?_
  refine r_return d_X3_become_15 rfl ?_
  exact ⟨rfl, rfl⟩
def sp_chg (x : Nat) : Nat := if x = 6 then 7 else if x = 9 then 8 else x
set_option maxRecDepth 10000 in
set_option maxHeartbeats 4000000 in
theorem c_X3_changed {h : pm_H} {x : Nat} (hx : x ≤ 30) : pm_Cv e_X3_changed [.int (nI x)] h (.int (nI (sp_chg x))) h := by
  refine pm_enter rfl (Nat.le_of_ble_eq_true rfl) ?_
  show pm_V e_X3_changed 0 [some (.int (nI x))] [] h (0, 0) _
  refine r_iload_0 d_X3_changed_0 ?_
  refine r_push (v := nI 6) d_X3_changed_1 ?_
  refine r_icmp_ne d_X3_changed_3 (fun c3 => ?_) (fun c3 => ?_)
  · -- taken at 3
    have c3 : ¬ x = 6 := fun zz9 => c3 ((nI_eq (a := x) (b := 6) (by omega) (by omega)).mpr zz9)
    refine r_iload_0 d_X3_changed_9 ?_
    refine r_push (v := nI 9) d_X3_changed_10 ?_
    refine r_icmp_ne d_X3_changed_12 (fun c12 => ?_) (fun c12 => ?_)
    · -- taken at 12
      have c12 : ¬ x = 9 := fun zz9 => c12 ((nI_eq (a := x) (b := 9) (by omega) (by omega)).mpr zz9)
      refine r_iload_0 d_X3_changed_20 ?_
      refine r_ireturn d_X3_changed_21 ⟨_, rfl, rfl⟩ ?_
      exact ⟨congrArg (fun z => some (Value.int (nI z))) (by unfold sp_chg; split <;> (try split) <;> omega), rfl⟩
    · -- not taken at 12
      have c12 : x = 9 := (nI_eq (a := x) (b := 9) (by omega) (by omega)).mp c12
      refine r_push (v := nI 8) d_X3_changed_15 ?_
      refine r_goto d_X3_changed_17 ?_
      refine r_ireturn d_X3_changed_21 ⟨_, rfl, rfl⟩ ?_
      exact ⟨congrArg (fun z => some (Value.int (nI z))) (by unfold sp_chg; split <;> (try split) <;> omega), rfl⟩
  · -- not taken at 3
    have c3 : x = 6 := (nI_eq (a := x) (b := 6) (by omega) (by omega)).mp c3
    refine r_push (v := nI 7) d_X3_changed_6 ?_
    refine r_ireturn d_X3_changed_8 ⟨_, rfl, rfl⟩ ?_
    exact ⟨congrArg (fun z => some (Value.int (nI z))) (by unfold sp_chg; split <;> (try split) <;> omega), rfl⟩
