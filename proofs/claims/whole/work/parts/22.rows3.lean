def sp_nt (v : Nat → Int32) : Nat → Int64
  | 0 => 0
  | i + 1 => if sp_num (v i) then sp_nt v i ||| ((1 : Int64) <<< ((v i).toInt64 &&& 63)) else sp_nt v i
set_option maxRecDepth 10000 in
set_option maxHeartbeats 4000000 in
theorem lp_X0_numbersThere {h : pm_H} {a l z : Nat} {v : Nat → Int32} (ha : h.2 a = some (.inr (0, [.ref l, .int (nI z)]))) (hl : h.2 l = some (at_Y 64 v)) (hz : z ≤ 64) {F : Option Value → pm_H → Prop} {b : Nat × Nat}  (K : pm_V e_X0_numbersThere 41 [some (.ref a), some (.long (sp_nt v z)), none, some (.int (nI z))] [] h b F) : ∀ (d i : Nat), i + d = z → pm_V e_X0_numbersThere 4 [some (.ref a), some (.long (sp_nt v i)), none, some (.int (nI i))] [] h b F := by
  intro d
  induction d with
  | zero =>
    intro i hi
    rw [show i = z by omega]
    refine r_iload_3 d_X0_numbersThere_4 ?_
    refine r_aload_0 d_X0_numbersThere_5 ?_
    refine r_get d_X0_numbersThere_6 s0_size ha rfl ?_
    refine r_icmp_ge d_X0_numbersThere_9 (fun c9 => ?_) (fun c9 => ?_)
    · -- taken at 9
      have c9 : z ≤ z := (nI_leI (a := z) (b := z) (by omega) (by omega)).mp c9
      exact K
    · -- not taken at 9
      have c9 : ¬ z ≤ z := fun zz9 => c9 ((nI_leI (a := z) (b := z) (by omega) (by omega)).mpr zz9)
      exfalso; omega
  | succ d ih =>
    intro i hi
    refine r_iload_3 d_X0_numbersThere_4 ?_
    refine r_aload_0 d_X0_numbersThere_5 ?_
    refine r_get d_X0_numbersThere_6 s0_size ha rfl ?_
    refine r_icmp_ge d_X0_numbersThere_9 (fun c9 => ?_) (fun c9 => ?_)
    · -- taken at 9
      have c9 : z ≤ i := (nI_leI (a := z) (b := i) (by omega) (by omega)).mp c9
      exfalso; omega
    · -- not taken at 9
      have c9 : ¬ z ≤ i := fun zz9 => c9 ((nI_leI (a := z) (b := i) (by omega) (by omega)).mpr zz9)
      refine r_aload_0 d_X0_numbersThere_12 ?_
      refine r_get d_X0_numbersThere_13 s0_bytes ha rfl ?_
      refine r_iload_3 d_X0_numbersThere_16 ?_
      refine r_bald d_X0_numbersThere_17 hl (pm_ixN (by omega) (by decide)) ?_
      have hbl := pm_bl_le (sp_num (v i))
      refine r_S1 d_X0_numbersThere_18 c_X9_isNumberB ⟨rfl, rfl⟩ (Nat.le_of_ble_eq_true rfl) ?_
      refine r_if_eq d_X0_numbersThere_21 (fun c21 => ?_) (fun c21 => ?_)
      · -- taken at 21
        have c21 : (pm_bl (sp_num (v i))) = 0 := (nI_eq (a := (pm_bl (sp_num (v i)))) (b := 0) (by omega) (by omega)).mp c21
        refine r_iinc_3 d_X0_numbersThere_35 (Nat.le_of_ble_eq_true rfl) (fun w hw => by cases hw <;> rfl) ?_
        rw [nI_1]
        refine r_goto d_X0_numbersThere_38 ?_
        first
        | (rw [show sp_nt v i ||| ((1 : Int64) <<< ((v i).toInt64 &&& 63)) = sp_nt v (i + 1) from (by simp only [sp_nt]; rw [if_pos (pm_bl1 c21)])]; exact ih (i + 1) (by omega))
        | (rw [show sp_nt v i = sp_nt v (i + 1) from (by simp only [sp_nt]; rw [if_neg (by rw [pm_bl0.mp c21]; decide)])]; exact ih (i + 1) (by omega))
      · -- not taken at 21
        have c21 : ¬ (pm_bl (sp_num (v i))) = 0 := fun zz9 => c21 ((nI_eq (a := (pm_bl (sp_num (v i)))) (b := 0) (by omega) (by omega)).mpr zz9)
        refine r_lload_1 d_X0_numbersThere_24 ?_
        refine r_pushl d_X0_numbersThere_25 ?_
        refine r_aload_0 d_X0_numbersThere_26 ?_
        refine r_get d_X0_numbersThere_27 s0_bytes ha rfl ?_
        refine r_iload_3 d_X0_numbersThere_30 ?_
        refine r_bald d_X0_numbersThere_31 hl (pm_ixN (by omega) (by decide)) ?_
        refine r_lshl d_X0_numbersThere_32 ?_
        refine r_lor d_X0_numbersThere_33 ?_
        refine r_lstore_1 d_X0_numbersThere_34 (Nat.le_of_ble_eq_true rfl) (fun w hw => by cases hw <;> rfl) ?_
        refine r_iinc_3 d_X0_numbersThere_35 (Nat.le_of_ble_eq_true rfl) (fun w hw => by cases hw <;> rfl) ?_
        rw [nI_1]
        refine r_goto d_X0_numbersThere_38 ?_
        first
        | (rw [show sp_nt v i ||| ((1 : Int64) <<< ((v i).toInt64 &&& 63)) = sp_nt v (i + 1) from (by simp only [sp_nt]; rw [if_pos (pm_bl1 c21)])]; exact ih (i + 1) (by omega))
        | (rw [show sp_nt v i = sp_nt v (i + 1) from (by simp only [sp_nt]; rw [if_neg (by rw [pm_bl0.mp c21]; decide)])]; exact ih (i + 1) (by omega))
set_option maxRecDepth 10000 in
set_option maxHeartbeats 4000000 in
theorem c_X0_numbersThere {h : pm_H} {a l z : Nat} {v : Nat → Int32} (ha : h.2 a = some (.inr (0, [.ref l, .int (nI z)]))) (hl : h.2 l = some (at_Y 64 v)) (hz : z ≤ 64) : pm_Cv e_X0_numbersThere [.ref a] h (.long (sp_nt v z)) h := by
  refine pm_enter rfl (Nat.le_of_ble_eq_true rfl) ?_
  show pm_V e_X0_numbersThere 0 [some (.ref a), none, none, none] [] h (0, 0) _
  refine r_pushl d_X0_numbersThere_0 ?_
  refine r_lstore_1 d_X0_numbersThere_1 (Nat.le_of_ble_eq_true rfl) (fun w hw => by cases hw <;> rfl) ?_
  refine r_push (v := nI 0) d_X0_numbersThere_2 ?_
  refine r_istore_3 d_X0_numbersThere_3 (Nat.le_of_ble_eq_true rfl) (fun w hw => by cases hw <;> rfl) ?_
  refine lp_X0_numbersThere ha hl hz ?_ z 0 (by omega)
  refine r_lload_1 d_X0_numbersThere_41 ?_
  refine r_lreturn d_X0_numbersThere_42 rfl ?_
  exact ⟨rfl, rfl⟩
def sp_c1 (x : Int64) : Int64 := x - ((x.toUInt64 >>> ((1 : Int32).toInt64.toUInt64 &&& Int64.toUInt64 63)).toInt64 &&& 6148914691236517205)
def sp_c2 (x : Int64) : Int64 := (x &&& 3689348814741910323) + ((x.toUInt64 >>> ((2 : Int32).toInt64.toUInt64 &&& Int64.toUInt64 63)).toInt64 &&& 3689348814741910323)
def sp_c3 (x : Int64) : Int64 := (x + (x.toUInt64 >>> ((4 : Int32).toInt64.toUInt64 &&& Int64.toUInt64 63)).toInt64) &&& 1085102592571150095
def sp_c4 (x : Int64) : Int64 := x + (x.toUInt64 >>> ((8 : Int32).toInt64.toUInt64 &&& Int64.toUInt64 63)).toInt64
def sp_c5 (x : Int64) : Int64 := x + (x.toUInt64 >>> ((16 : Int32).toInt64.toUInt64 &&& Int64.toUInt64 63)).toInt64
def sp_c6 (x : Int64) : Int64 := x + (x.toUInt64 >>> ((32 : Int32).toInt64.toUInt64 &&& Int64.toUInt64 63)).toInt64
def sp_bc (x : Int64) : Int32 := (sp_c6 (sp_c5 (sp_c4 (sp_c3 (sp_c2 (sp_c1 x)))))).toInt32 &&& 127
set_option maxRecDepth 10000 in
set_option maxHeartbeats 4000000 in
theorem c_J13_bitCount_95d88 {h : pm_H} {x : Int64} : pm_Cv e_J13_bitCount_95d88 [.long x] h (.int (sp_bc x)) h := by
  refine pm_enter rfl (Nat.le_of_ble_eq_true rfl) ?_
  show pm_V e_J13_bitCount_95d88 0 [some (.long x), none] [] h (0, 0) _
  refine r_lload_0 d_J13_bitCount_95d88_0 ?_
  refine r_lload_0 d_J13_bitCount_95d88_1 ?_
  refine r_push d_J13_bitCount_95d88_2 ?_
  refine r_lushr d_J13_bitCount_95d88_3 ?_
  refine r_pushl d_J13_bitCount_95d88_4 ?_
  refine r_land d_J13_bitCount_95d88_7 ?_
  refine r_lsub d_J13_bitCount_95d88_8 ?_
  refine r_lstore_0z d_J13_bitCount_95d88_9 (Nat.le_of_ble_eq_true rfl) ?_
  show pm_V _ 10 [some (.long (sp_c1 x)), none] [] _ _ _
  refine r_lload_0 d_J13_bitCount_95d88_10 ?_
  refine r_pushl d_J13_bitCount_95d88_11 ?_
  refine r_land d_J13_bitCount_95d88_14 ?_
  refine r_lload_0 d_J13_bitCount_95d88_15 ?_
  refine r_push d_J13_bitCount_95d88_16 ?_
  refine r_lushr d_J13_bitCount_95d88_17 ?_
  refine r_pushl d_J13_bitCount_95d88_18 ?_
  refine r_land d_J13_bitCount_95d88_21 ?_
  refine r_ladd d_J13_bitCount_95d88_22 ?_
  refine r_lstore_0z d_J13_bitCount_95d88_23 (Nat.le_of_ble_eq_true rfl) ?_
  show pm_V _ 24 [some (.long (sp_c2 (sp_c1 x))), none] [] _ _ _
  refine r_lload_0 d_J13_bitCount_95d88_24 ?_
  refine r_lload_0 d_J13_bitCount_95d88_25 ?_
  refine r_push d_J13_bitCount_95d88_26 ?_
  refine r_lushr d_J13_bitCount_95d88_27 ?_
  refine r_ladd d_J13_bitCount_95d88_28 ?_
  refine r_pushl d_J13_bitCount_95d88_29 ?_
  refine r_land d_J13_bitCount_95d88_32 ?_
  refine r_lstore_0z d_J13_bitCount_95d88_33 (Nat.le_of_ble_eq_true rfl) ?_
  show pm_V _ 34 [some (.long (sp_c3 (sp_c2 (sp_c1 x)))), none] [] _ _ _
  refine r_lload_0 d_J13_bitCount_95d88_34 ?_
  refine r_lload_0 d_J13_bitCount_95d88_35 ?_
  refine r_push d_J13_bitCount_95d88_36 ?_
  refine r_lushr d_J13_bitCount_95d88_38 ?_
  refine r_ladd d_J13_bitCount_95d88_39 ?_
  refine r_lstore_0z d_J13_bitCount_95d88_40 (Nat.le_of_ble_eq_true rfl) ?_
  show pm_V _ 41 [some (.long (sp_c4 (sp_c3 (sp_c2 (sp_c1 x))))), none] [] _ _ _
  refine r_lload_0 d_J13_bitCount_95d88_41 ?_
  refine r_lload_0 d_J13_bitCount_95d88_42 ?_
  refine r_push d_J13_bitCount_95d88_43 ?_
  refine r_lushr d_J13_bitCount_95d88_45 ?_
  refine r_ladd d_J13_bitCount_95d88_46 ?_
  refine r_lstore_0z d_J13_bitCount_95d88_47 (Nat.le_of_ble_eq_true rfl) ?_
  show pm_V _ 48 [some (.long (sp_c5 (sp_c4 (sp_c3 (sp_c2 (sp_c1 x)))))), none] [] _ _ _
  refine r_lload_0 d_J13_bitCount_95d88_48 ?_
  refine r_lload_0 d_J13_bitCount_95d88_49 ?_
  refine r_push d_J13_bitCount_95d88_50 ?_
  refine r_lushr d_J13_bitCount_95d88_52 ?_
  refine r_ladd d_J13_bitCount_95d88_53 ?_
  refine r_lstore_0z d_J13_bitCount_95d88_54 (Nat.le_of_ble_eq_true rfl) ?_
  show pm_V _ 55 [some (.long (sp_c6 (sp_c5 (sp_c4 (sp_c3 (sp_c2 (sp_c1 x))))))), none] [] _ _ _
  refine r_lload_0 d_J13_bitCount_95d88_55 ?_
  refine r_l2i d_J13_bitCount_95d88_56 ?_
  refine r_push d_J13_bitCount_95d88_57 ?_
  refine r_iand d_J13_bitCount_95d88_59 ?_
  refine r_ireturn d_J13_bitCount_95d88_60 ⟨_, rfl, rfl⟩ ?_
  exact ⟨rfl, rfl⟩
def sp_vb (v : Nat → Int32) (i : Nat) : Bool := decide (0 ≤ v i ∧ v i < 31)
def sp_cv (v : Nat → Int32) (j : Nat) : Nat → Nat
  | 0 => 0
  | i + 1 => sp_cv v j i + (if v i = nI j then 1 else 0)
def sp_cn (v : Nat → Int32) : Nat → Nat
  | 0 => 0
  | i + 1 => sp_cn v i + pm_bl (sp_vb v i)
theorem sp_cn_le (v : Nat → Int32) : ∀ i, sp_cn v i ≤ i
  | 0 => Nat.le_refl _
  | i + 1 => by
    have := sp_cn_le v i
    have h2 := pm_bl_le (sp_vb v i)
    simp only [sp_cn]; omega
theorem sp_cv_le (v : Nat → Int32) (j : Nat) : ∀ i, sp_cv v j i ≤ i
  | 0 => Nat.le_refl _
  | i + 1 => by
    have := sp_cv_le v j i
    simp only [sp_cv]; split <;> omega
theorem sp_cv_up {v : Nat → Int32} {f : Nat → Int32} {i y : Nat} (hy : y < 31) (e : v i = nI y) : upd (pm_fc (fun j => nI (sp_cv v j i)) f 31) y (nI (sp_cv v y i + 1)) = pm_fc (fun j => nI (sp_cv v j (i + 1))) f 31 := by
  funext j
  simp only [upd, pm_fc]
  by_cases h1 : j = y
  · subst h1
    simp [hy, sp_cv, e]
  · by_cases h2 : j < 31
    · have : ¬ nI y = nI j := fun q => h1 ((nI_eq (by omega) (by omega)).mp q).symm
      simp [h1, h2, sp_cv, e, this]
    · simp [h1, h2]
theorem sp_cv_no {v : Nat → Int32} {f : Nat → Int32} {i : Nat} (e : sp_vb v i = false) : pm_fc (fun j => nI (sp_cv v j i)) f 31 = pm_fc (fun j => nI (sp_cv v j (i + 1))) f 31 := by
  funext j
  simp only [pm_fc]
  split
  · next h2 =>
    have : ¬ v i = nI j := by
      intro q
      have h3 := of_decide_eq_false e
      refine h3 ⟨?_, ?_⟩
      · rw [q]; exact nI_pos' (by omega)
      · rw [q]; exact (nI_ltI (a := j) (b := 31) (by omega) (by decide)).mpr h2
    simp [sp_cv, this]
  · rfl
theorem pm_fl_cv {v f : Nat → Int32} : pm_fl (nI 0) f 31 = pm_fc (fun j => nI (sp_cv v j 0)) f 31 := by
  funext j
  simp only [pm_fl, pm_fc, sp_cv]
set_option maxRecDepth 10000 in
set_option maxHeartbeats 4000000 in
theorem lp_X0_partsInto {h : pm_H} {a l z : Nat} {v f : Nat → Int32} (ha : h.2 a = some (.inr (0, [.ref l, .int (nI z)]))) (hl : h.2 l = some (at_Y 64 v)) (hz : z ≤ 64) (ha18 : a ≠ 18) (hl18 : l ≠ 18) {F : Option Value → pm_H → Prop} {b : Nat × Nat}  (K : pm_V e_X0_partsInto 58 [some (.ref a), some (.ref 18), some (.int (nI (sp_cn v z))), some (.int (nI z))] [] (pm_up h 18 (at_I 31 (pm_fc (fun j => nI (sp_cv v j z)) f 31))) b F) : ∀ (d i : Nat), i + d = z → pm_V e_X0_partsInto 9 [some (.ref a), some (.ref 18), some (.int (nI (sp_cn v i))), some (.int (nI i))] [] (pm_up h 18 (at_I 31 (pm_fc (fun j => nI (sp_cv v j i)) f 31))) b F := by
  intro d
  induction d with
  | zero =>
    intro i hi
    rw [show i = z by omega]
    refine r_iload_3 d_X0_partsInto_9 ?_
    refine r_aload_0 d_X0_partsInto_10 ?_
    refine r_get d_X0_partsInto_11 s0_size (pm_ne ha18 ha) rfl ?_
    refine r_icmp_ge d_X0_partsInto_14 (fun c14 => ?_) (fun c14 => ?_)
    · -- taken at 14
      have c14 : z ≤ z := (nI_leI (a := z) (b := z) (by omega) (by omega)).mp c14
      exact K
    · -- not taken at 14
      have c14 : ¬ z ≤ z := fun zz9 => c14 ((nI_leI (a := z) (b := z) (by omega) (by omega)).mpr zz9)
      exfalso; omega
  | succ d ih =>
    intro i hi
    refine r_iload_3 d_X0_partsInto_9 ?_
    refine r_aload_0 d_X0_partsInto_10 ?_
    refine r_get d_X0_partsInto_11 s0_size (pm_ne ha18 ha) rfl ?_
    refine r_icmp_ge d_X0_partsInto_14 (fun c14 => ?_) (fun c14 => ?_)
    · -- taken at 14
      have c14 : z ≤ i := (nI_leI (a := z) (b := i) (by omega) (by omega)).mp c14
      exfalso; omega
    · -- not taken at 14
      have c14 : ¬ z ≤ i := fun zz9 => c14 ((nI_leI (a := z) (b := i) (by omega) (by omega)).mpr zz9)
      refine r_aload_0 d_X0_partsInto_17 ?_
      refine r_get d_X0_partsInto_18 s0_bytes (pm_ne ha18 ha) rfl ?_
      refine r_iload_3 d_X0_partsInto_21 ?_
      refine r_bald d_X0_partsInto_22 (pm_ne hl18 hl) (pm_ixN (by omega) (by decide)) ?_
      refine r_if_lt d_X0_partsInto_23 (fun c23 => ?_) (fun c23 => ?_)
      · -- taken at 23
        have evb : sp_vb v i = false := decide_eq_false (fun z => absurd z.1 (Int32.not_le.mpr c23))
        refine r_iinc_3 d_X0_partsInto_52 (Nat.le_of_ble_eq_true rfl) (fun w hw => by cases hw <;> rfl) ?_
        rw [nI_1]
        refine r_goto d_X0_partsInto_55 ?_
        have hcn := sp_cn_le v i
        have e := (show sp_cn v (i + 1) = sp_cn v i + pm_bl (sp_vb v i) from rfl)
        rw [evb] at e
        first
        | (rw [show sp_cn v i + 1 = sp_cn v (i + 1) from e.symm]; exact ih (i + 1) (by omega))
        | (rw [show sp_cn v i = sp_cn v (i + 1) from e.symm, sp_cv_no evb]; exact ih (i + 1) (by omega))
      · -- not taken at 23
        refine r_aload_0 d_X0_partsInto_26 ?_
        refine r_get d_X0_partsInto_27 s0_bytes (pm_ne ha18 ha) rfl ?_
        refine r_iload_3 d_X0_partsInto_30 ?_
        refine r_bald d_X0_partsInto_31 (pm_ne hl18 hl) (pm_ixN (by omega) (by decide)) ?_
        refine r_aload_1 d_X0_partsInto_32 ?_
        refine r_alen d_X0_partsInto_33 rfl (t0 := 0) rfl (fun z => by cases z) rfl ?_
        refine r_icmp_ge d_X0_partsInto_34 (fun c34 => ?_) (fun c34 => ?_)
        · -- taken at 34
          have evb : sp_vb v i = false := decide_eq_false (fun z => absurd z.2 (Int32.not_lt.mpr c34))
          refine r_iinc_3 d_X0_partsInto_52 (Nat.le_of_ble_eq_true rfl) (fun w hw => by cases hw <;> rfl) ?_
          rw [nI_1]
          refine r_goto d_X0_partsInto_55 ?_
          have hcn := sp_cn_le v i
          have e := (show sp_cn v (i + 1) = sp_cn v i + pm_bl (sp_vb v i) from rfl)
          rw [evb] at e
          first
          | (rw [show sp_cn v i + 1 = sp_cn v (i + 1) from e.symm]; exact ih (i + 1) (by omega))
          | (rw [show sp_cn v i = sp_cn v (i + 1) from e.symm, sp_cv_no evb]; exact ih (i + 1) (by omega))
        · -- not taken at 34
          have evb : sp_vb v i = true := decide_eq_true ⟨Int32.not_lt.mp c23, Int32.not_le.mp c34⟩
          obtain ⟨y, hy, ey⟩ := pm_rng (n := 31) c23 c34 (by decide)
          have hcy := sp_cv_le v y i
          refine r_aload_1 d_X0_partsInto_37 ?_
          refine r_aload_0 d_X0_partsInto_38 ?_
          refine r_get d_X0_partsInto_39 s0_bytes (pm_ne ha18 ha) rfl ?_
          refine r_iload_3 d_X0_partsInto_42 ?_
          refine r_bald d_X0_partsInto_43 (pm_ne hl18 hl) (pm_ixN (by omega) (by decide)) ?_
          rw [ey]
          refine r_dup2 d_X0_partsInto_44 rfl rfl ?_
          refine r_iald d_X0_partsInto_45 rfl (pm_ixN hy (by decide)) ?_
          rw [pm_fc_in hy]
          refine r_push (v := nI 1) d_X0_partsInto_46 ?_
          refine r_iadd d_X0_partsInto_47 ?_
          rw [nI_add]
          refine r_iast d_X0_partsInto_48 rfl (pm_ixN hy (by decide)) ?_
          rw [pm_up_up, sp_cv_up hy ey]
          refine r_iinc_2 d_X0_partsInto_49 (Nat.le_of_ble_eq_true rfl) (fun w hw => by cases hw <;> rfl) ?_
          rw [nI_1]
          refine r_iinc_3 d_X0_partsInto_52 (Nat.le_of_ble_eq_true rfl) (fun w hw => by cases hw <;> rfl) ?_
          rw [nI_1]
          refine r_goto d_X0_partsInto_55 ?_
          have hcn := sp_cn_le v i
          have e := (show sp_cn v (i + 1) = sp_cn v i + pm_bl (sp_vb v i) from rfl)
          rw [evb] at e
          first
          | (rw [show sp_cn v i + 1 = sp_cn v (i + 1) from e.symm]; exact ih (i + 1) (by omega))
          | (rw [show sp_cn v i = sp_cn v (i + 1) from e.symm, sp_cv_no evb]; exact ih (i + 1) (by omega))
set_option maxRecDepth 10000 in
set_option maxHeartbeats 4000000 in
theorem lq_X0_partsInto {h : pm_H} {a l z : Nat} {v f : Nat → Int32} (ha : h.2 a = some (.inr (0, [.ref l, .int (nI z)]))) (hl : h.2 l = some (at_Y 64 v)) (hz : z ≤ 64) (ha18 : a ≠ 18) (hl18 : l ≠ 18) (hcn : 0 < sp_cn v z) {F : Option Value → pm_H → Prop} {b : Nat × Nat}  (K : pm_V e_X0_partsInto 89 [some (.ref a), some (.ref 18), some (.int (nI (sp_cn v z))), some (.int (nI 31))] [] (pm_up h 18 (at_I 31 (pm_fc (fun j => nI (1000000 * sp_cv v j z / sp_cn v z)) (pm_fc (fun j => nI (sp_cv v j z)) f 31) 31))) b F) : ∀ (d i : Nat), i + d = 31 → pm_V e_X0_partsInto 66 [some (.ref a), some (.ref 18), some (.int (nI (sp_cn v z))), some (.int (nI i))] [] (pm_up h 18 (at_I 31 (pm_fc (fun j => nI (1000000 * sp_cv v j z / sp_cn v z)) (pm_fc (fun j => nI (sp_cv v j z)) f 31) i))) b F := by
  intro d
  induction d with
  | zero =>
    intro i hi
    obtain rfl : i = 31 := by omega
    refine r_iload_3 d_X0_partsInto_66 ?_
    refine r_aload_1 d_X0_partsInto_67 ?_
    refine r_alen d_X0_partsInto_68 rfl (t0 := 0) (n := 31) rfl (fun z => by cases z) rfl ?_
    refine r_icmp_ge d_X0_partsInto_69 (fun c69 => ?_) (fun c69 => absurd (by decide) c69)
    clear c69
    exact K
  | succ d ih =>
    intro i hi
    refine r_iload_3 d_X0_partsInto_66 ?_
    refine r_aload_1 d_X0_partsInto_67 ?_
    refine r_alen d_X0_partsInto_68 rfl (t0 := 0) (n := 31) rfl (fun z => by cases z) rfl ?_
    refine r_icmp_ge d_X0_partsInto_69 (fun c69 => ?_) (fun c69 => ?_)
    · -- taken at 69
      have c69 : 31 ≤ i := (nI_leI (a := 31) (b := i) (by omega) (by omega)).mp c69
      exfalso; omega
    · -- not taken at 69
      have c69 : ¬ 31 ≤ i := fun zz9 => c69 ((nI_leI (a := 31) (b := i) (by omega) (by omega)).mpr zz9)
      refine r_aload_1 d_X0_partsInto_72 ?_
      refine r_iload_3 d_X0_partsInto_73 ?_
      have hcv := sp_cv_le v i z
      have hcz := sp_cn_le v z
      refine r_push (v := nI 1000000) d_X0_partsInto_74 ?_
      refine r_aload_1 d_X0_partsInto_76 ?_
      refine r_iload_3 d_X0_partsInto_77 ?_
      refine r_iald d_X0_partsInto_78 rfl (pm_ixN (by omega) (by omega)) ?_
      rw [pm_fc_out (Nat.le_refl i), pm_fc_in (by omega)]
      refine r_imul d_X0_partsInto_79 ?_
      rw [pk_mul]
      refine r_iload_2 d_X0_partsInto_80 ?_
      refine r_idiv d_X0_partsInto_81 (nI_ne0 (n := (sp_cn v z)) (by omega) (by omega)) ?_
      rw [pk_div (a := (1000000 * (sp_cv v i z))) (d := (sp_cn v z)) (by omega) (by omega) (by omega)]
      refine r_iast d_X0_partsInto_82 rfl (pm_ixN (by omega) (by omega)) ?_
      rw [show nI (1000000 * sp_cv v i z / sp_cn v z) = (fun j => nI (1000000 * sp_cv v j z / sp_cn v z)) i from rfl, pm_up_up, pm_fc_s]
      refine r_iinc_3 d_X0_partsInto_83 (Nat.le_of_ble_eq_true rfl) (fun w hw => by cases hw <;> rfl) ?_
      rw [nI_1]
      refine r_goto d_X0_partsInto_86 ?_
      exact ih (i + 1) (by omega)
set_option maxRecDepth 10000 in
set_option maxHeartbeats 4000000 in
theorem c_X0_partsInto {h : pm_H} {a l z : Nat} {v f : Nat → Int32} (ha : h.2 a = some (.inr (0, [.ref l, .int (nI z)]))) (hl : h.2 l = some (at_Y 64 v)) (hz : z ≤ 64) (ha18 : a ≠ 18) (hl18 : l ≠ 18) (hp : h.2 18 = some (at_I 31 f)) : pm_Cl e_X0_partsInto [.ref a, .ref 18] h (fun v9 h1 => (sp_cn v z = 0 ∧ v9 = some (.int (nI 0)) ∧ h1 = (pm_up h 18 (at_I 31 (pm_fc (fun j => nI (sp_cv v j z)) f 31)))) ∨ (0 < sp_cn v z ∧ v9 = some (.int (nI 1)) ∧ h1 = (pm_up h 18 (at_I 31 (pm_fc (fun j => nI (1000000 * sp_cv v j z / sp_cn v z)) (pm_fc (fun j => nI (sp_cv v j z)) f 31) 31))))) := by
  have hcz := sp_cn_le v z
  refine pm_enter rfl (Nat.le_of_ble_eq_true rfl) ?_
  show pm_V e_X0_partsInto 0 [some (.ref a), some (.ref 18), none, none] [] h (0, 0) _
  refine r_aload_1 d_X0_partsInto_0 ?_
  refine r_push (v := nI 0) d_X0_partsInto_1 ?_
  refine r_S2v d_X0_partsInto_2 (c_J7_fill_53178 (n := 31) (by decide) hp) ⟨rfl, rfl⟩ (Nat.le_of_ble_eq_true rfl) ?_
  refine r_push (v := nI 0) d_X0_partsInto_5 ?_
  refine r_istore_2 d_X0_partsInto_6 (Nat.le_of_ble_eq_true rfl) (fun w hw => by cases hw <;> rfl) ?_
  refine r_push (v := nI 0) d_X0_partsInto_7 ?_
  refine r_istore_3 d_X0_partsInto_8 (Nat.le_of_ble_eq_true rfl) (fun w hw => by cases hw <;> rfl) ?_
  rw [pm_fl_cv (v := v)]
  refine lp_X0_partsInto ha hl hz ha18 hl18 ?_ z 0 (by omega)
  refine r_iload_2 d_X0_partsInto_58 ?_
  refine r_if_ne d_X0_partsInto_59 (fun c59 => ?_) (fun c59 => ?_)
  · have c59 : ¬ sp_cn v z = 0 := fun zz9 => c59 ((nI_eq (a := sp_cn v z) (b := 0) (by omega) (by omega)).mpr zz9)
    refine r_push (v := nI 0) d_X0_partsInto_64 ?_
    refine r_istore_3 d_X0_partsInto_65 (Nat.le_of_ble_eq_true rfl) (fun w hw => by cases hw <;> rfl) ?_
    have K := lq_X0_partsInto (f := f) (b := (0, 0)) (F := fun v9 h1 => (sp_cn v z = 0 ∧ v9 = some (.int (nI 0)) ∧ h1 = (pm_up h 18 (at_I 31 (pm_fc (fun j => nI (sp_cv v j z)) f 31)))) ∨ (0 < sp_cn v z ∧ v9 = some (.int (nI 1)) ∧ h1 = (pm_up h 18 (at_I 31 (pm_fc (fun j => nI (1000000 * sp_cv v j z / sp_cn v z)) (pm_fc (fun j => nI (sp_cv v j z)) f 31) 31))))) ha hl hz ha18 hl18 (by omega) (r_push (v := nI 1) d_X0_partsInto_89 (r_ireturn d_X0_partsInto_90 ⟨_, rfl, rfl⟩ (Or.inr ⟨by omega, rfl, rfl⟩))) 31 0 (by omega)
    rw [pm_fc_0] at K
    exact K
  · have c59 : sp_cn v z = 0 := (nI_eq (a := sp_cn v z) (b := 0) (by omega) (by omega)).mp c59
    refine r_push (v := nI 0) d_X0_partsInto_62 ?_
    refine r_ireturn d_X0_partsInto_63 ⟨_, rfl, rfl⟩ ?_
    exact Or.inl ⟨c59, rfl, rfl⟩
