theorem sp_in_56 {f : Int32} (h1 : ¬ f < 0) (h2 : f < 6) : sp_in f 0 5 = true := by
  refine decide_eq_true ?_
  simp only [Int32.lt_iff_toInt_lt, Int32.le_iff_toInt_le, ← Int32.toInt_inj, pm_t0, pm_t1, pm_t2, pm_t3, pm_t4, pm_t5, pm_t6, pm_t7, pm_t8, pm_t9, pm_t10, pm_t11, pm_t12, pm_t13, pm_t14, pm_t15, pm_t30, pm_t31, pm_t59, pm_t60, pm_t63, pm_t64, pm_t511, pm_t512] at *
  omega
theorem sp_in_511 {f : Int32} (h1 : ¬ f < 0) (h2 : f < 512) : sp_in f 0 511 = true := by
  refine decide_eq_true ?_
  simp only [Int32.lt_iff_toInt_lt, Int32.le_iff_toInt_le, ← Int32.toInt_inj, pm_t0, pm_t1, pm_t2, pm_t3, pm_t4, pm_t5, pm_t6, pm_t7, pm_t8, pm_t9, pm_t10, pm_t11, pm_t12, pm_t13, pm_t14, pm_t15, pm_t30, pm_t31, pm_t59, pm_t60, pm_t63, pm_t64, pm_t511, pm_t512] at *
  omega
theorem sp_fit_all {ln : Nat → Nat} : ∀ {n : Nat}, sp_fit ln n = 1 → ∀ i, i < n → 6 ≤ ln i ∧ ln i ≤ 9
  | 0, _, i, hid => absurd hid (by omega)
  | n + 1, h, i, hid => by
    have h : (if 6 ≤ ln n ∧ ln n ≤ 9 then sp_fit ln n else 0) = 1 := h
    by_cases e : 6 ≤ ln n ∧ ln n ≤ 9
    · rw [if_pos e] at h
      by_cases e2 : i = n
      · rw [e2]; exact e
      · exact sp_fit_all h i (by omega)
    · rw [if_neg e] at h; cases h
set_option maxRecDepth 10000 in
set_option maxHeartbeats 4000000 in
theorem c_X9_set_bad1 {h : pm_H} {xi : Nat → Int32} {xl : Nat → Int64} {xc : Nat → Option Nat} {XA : Nat → Nat → Int32} {XB : Nat → Nat → Int64} {f i v : Int32} (hf : sp_in f 0 7 = false) : pm_Cv e_X9_set [.ref 1, .int f, .int i, .int v] (pmX h xi xl xc XA XB) (.int (-1)) (pmX h xi xl xc XA XB) := by
  refine pm_enter rfl (Nat.le_of_ble_eq_true rfl) ?_
  show pm_V e_X9_set 0 [some (.ref 1), some (.int f), some (.int i), some (.int v), none, none] [] (pmX h xi xl xc XA XB) (0, 0) _
  refine r_aload_0 d_X9_set_0 ?_
  refine r_iload_1 d_X9_set_1 ?_
  refine r_V1 d_X9_set_2 (c_X9_figureAt_no hf) rfl rfl rfl ⟨rfl, rfl⟩ (Nat.le_of_ble_eq_true rfl) ?_
  refine r_astoreN_4 d_X9_set_5 (Nat.le_of_ble_eq_true rfl) (fun w hw => by cases hw <;> rfl) ?_
  refine r_aloadN_4 d_X9_set_7 ?_
  refine r_ifnullN d_X9_set_9 ?_
  refine r_push d_X9_set_24 ?_
  refine r_ireturn d_X9_set_25 ⟨_, rfl, rfl⟩ ?_
  exact ⟨rfl, rfl⟩
set_option maxRecDepth 10000 in
set_option maxHeartbeats 4000000 in
theorem c_X9_set_bad2 {h : pm_H} {xi : Nat → Int32} {xl : Nat → Int64} {xc : Nat → Option Nat} {XA : Nat → Nat → Int32} {XB : Nat → Nat → Int64} {p : Nat} {i v : Int32} (hp : p < 8) (hv : sp_in v 6 9 = false) : pm_Cv e_X9_set [.ref 1, .int (nI p), .int i, .int v] (pmX h xi xl xc XA XB) (.int (-1)) (pmX h xi xl xc XA XB) := by
  refine pm_enter rfl (Nat.le_of_ble_eq_true rfl) ?_
  show pm_V e_X9_set 0 [some (.ref 1), some (.int (nI p)), some (.int i), some (.int v), none, none] [] (pmX h xi xl xc XA XB) (0, 0) _
  refine r_aload_0 d_X9_set_0 ?_
  refine r_iload_1 d_X9_set_1 ?_
  refine r_V1 d_X9_set_2 (c_X9_figureAt hp) rfl rfl rfl ⟨rfl, rfl⟩ (Nat.le_of_ble_eq_true rfl) ?_
  refine r_astore_4 d_X9_set_5 (Nat.le_of_ble_eq_true rfl) (fun w hw => by cases hw <;> rfl) ?_
  refine r_aload_4 d_X9_set_7 ?_
  refine r_ifnull d_X9_set_9 ?_
  refine r_iload_3 d_X9_set_12 ?_
  refine r_push d_X9_set_13 ?_
  refine r_icmp_lt d_X9_set_15 (fun c15 => ?_) (fun c15 => ?_)
  · -- taken at 15
    refine r_push d_X9_set_24 ?_
    refine r_ireturn d_X9_set_25 ⟨_, rfl, rfl⟩ ?_
    exact ⟨rfl, rfl⟩
  · -- not taken at 15
    refine r_iload_3 d_X9_set_18 ?_
    refine r_push d_X9_set_19 ?_
    refine r_icmp_le d_X9_set_21 (fun c21 => ?_) (fun c21 => ?_)
    · -- taken at 21
      exact absurd ⟨Int32.not_lt.mp c15, c21⟩ (of_decide_eq_false hv)
    · -- not taken at 21
      refine r_push d_X9_set_24 ?_
      refine r_ireturn d_X9_set_25 ⟨_, rfl, rfl⟩ ?_
      exact ⟨rfl, rfl⟩
set_option maxRecDepth 10000 in
set_option maxHeartbeats 4000000 in
theorem c_X9_set_far {h : pm_H} {xi : Nat → Int32} {xl : Nat → Int64} {xc : Nat → Option Nat} {XA : Nat → Nat → Int32} {XB : Nat → Nat → Int64} {p : Nat} {i v : Int32} (hp : p < 8) (hv : sp_in v 6 9 = true) (hx : sp_in i 0 5 = false) : pm_Cv e_X9_set [.ref 1, .int (nI p), .int i, .int v] (pmX h xi xl xc XA XB) (.int (-3)) (x_meet h xi xl xc XA XB 2) := by
  refine pm_enter rfl (Nat.le_of_ble_eq_true rfl) ?_
  show pm_V e_X9_set 0 [some (.ref 1), some (.int (nI p)), some (.int i), some (.int v), none, none] [] (pmX h xi xl xc XA XB) (0, 0) _
  refine r_aload_0 d_X9_set_0 ?_
  refine r_iload_1 d_X9_set_1 ?_
  refine r_V1 d_X9_set_2 (c_X9_figureAt hp) rfl rfl rfl ⟨rfl, rfl⟩ (Nat.le_of_ble_eq_true rfl) ?_
  refine r_astore_4 d_X9_set_5 (Nat.le_of_ble_eq_true rfl) (fun w hw => by cases hw <;> rfl) ?_
  refine r_aload_4 d_X9_set_7 ?_
  refine r_ifnull d_X9_set_9 ?_
  refine r_iload_3 d_X9_set_12 ?_
  refine r_push (v := nI 6) d_X9_set_13 ?_
  refine r_icmp_lt d_X9_set_15 (fun c15 => ?_) (fun c15 => ?_)
  · -- taken at 15
    have h9 := of_decide_eq_true hv
    first | exact absurd c15 (Int32.not_lt.mpr h9.1) | exact absurd h9.2 c21
  · -- not taken at 15
    refine r_iload_3 d_X9_set_18 ?_
    refine r_push (v := nI 9) d_X9_set_19 ?_
    refine r_icmp_le d_X9_set_21 (fun c21 => ?_) (fun c21 => ?_)
    · -- taken at 21
      refine r_iload_2 d_X9_set_26 ?_
      refine r_if_lt d_X9_set_27 (fun c27 => ?_) (fun c27 => ?_)
      · -- taken at 27
        refine r_aload_0 d_X9_set_36 ?_
        refine r_push (v := nI 2) d_X9_set_37 ?_
        refine r_V1 d_X9_set_38 (c_X9_found (w := 2) (by decide)) rfl rfl rfl ⟨rfl, rfl⟩ (Nat.le_of_ble_eq_true rfl) ?_
        refine r_ireturn d_X9_set_41 ⟨_, rfl, rfl⟩ ?_
        exact ⟨rfl, rfl⟩
      · -- not taken at 27
        refine r_iload_2 d_X9_set_30 ?_
        refine r_push (v := nI 6) d_X9_set_31 ?_
        refine r_icmp_lt d_X9_set_33 (fun c33 => ?_) (fun c33 => ?_)
        · -- taken at 33
          exact absurd (sp_in_56 c27 c33) (by rw [hx]; decide)
        · -- not taken at 33
          refine r_aload_0 d_X9_set_36 ?_
          refine r_push (v := nI 2) d_X9_set_37 ?_
          refine r_V1 d_X9_set_38 (c_X9_found (w := 2) (by decide)) rfl rfl rfl ⟨rfl, rfl⟩ (Nat.le_of_ble_eq_true rfl) ?_
          refine r_ireturn d_X9_set_41 ⟨_, rfl, rfl⟩ ?_
          exact ⟨rfl, rfl⟩
    · -- not taken at 21
      have h9 := of_decide_eq_true hv
      first | exact absurd c15 (Int32.not_lt.mpr h9.1) | exact absurd h9.2 c21
set_option maxRecDepth 10000 in
set_option maxHeartbeats 4000000 in
theorem c_X9_set {h : pm_H} {xi : Nat → Int32} {xl : Nat → Int64} {xc : Nat → Option Nat} {XA : Nat → Nat → Int32} {XB : Nat → Nat → Int64} {p q w : Nat} (hp : p < 8) (hq : q < 6) (hw : 6 ≤ w ∧ w ≤ 9) : pm_Cv e_X9_set [.ref 1, .int (nI p), .int (nI q), .int (nI w)] (pmX h xi xl xc XA XB) (.int (XA (21 + 2 * p) q)) (pmX h xi xl xc (va_up XA (21 + 2 * p) (upd (XA (21 + 2 * p)) q (nI w))) XB) := by
  refine pm_enter rfl (Nat.le_of_ble_eq_true rfl) ?_
  show pm_V e_X9_set 0 [some (.ref 1), some (.int (nI p)), some (.int (nI q)), some (.int (nI w)), none, none] [] (pmX h xi xl xc XA XB) (0, 0) _
  refine r_aload_0 d_X9_set_0 ?_
  refine r_iload_1 d_X9_set_1 ?_
  refine r_V1 d_X9_set_2 (c_X9_figureAt hp) rfl rfl rfl ⟨rfl, rfl⟩ (Nat.le_of_ble_eq_true rfl) ?_
  refine r_astore_4 d_X9_set_5 (Nat.le_of_ble_eq_true rfl) (fun w hw => by cases hw <;> rfl) ?_
  refine r_aload_4 d_X9_set_7 ?_
  refine r_ifnull d_X9_set_9 ?_
  refine r_iload_3 d_X9_set_12 ?_
  refine r_push (v := nI 6) d_X9_set_13 ?_
  refine r_icmp_lt d_X9_set_15 (fun c15 => ?_) (fun c15 => ?_)
  · -- taken at 15
    have c15 : w < 6 := (nI_ltI (a := w) (b := 6) (by omega) (by omega)).mp c15
    exfalso; omega
  · -- not taken at 15
    have c15 : ¬ w < 6 := fun zz9 => c15 ((nI_ltI (a := w) (b := 6) (by omega) (by omega)).mpr zz9)
    refine r_iload_3 d_X9_set_18 ?_
    refine r_push (v := nI 9) d_X9_set_19 ?_
    refine r_icmp_le d_X9_set_21 (fun c21 => ?_) (fun c21 => ?_)
    · -- taken at 21
      have c21 : w ≤ 9 := (nI_leI (a := w) (b := 9) (by omega) (by omega)).mp c21
      refine r_iload_2 d_X9_set_26 ?_
      refine r_if_lt d_X9_set_27 (fun c27 => ?_) (fun c27 => ?_)
      · -- taken at 27
        have c27 : q < 0 := (nI_ltI (a := q) (b := 0) (by omega) (by omega)).mp c27
        exfalso; omega
      · -- not taken at 27
        have c27 : ¬ q < 0 := fun zz9 => c27 ((nI_ltI (a := q) (b := 0) (by omega) (by omega)).mpr zz9)
        refine r_iload_2 d_X9_set_30 ?_
        refine r_push (v := nI 6) d_X9_set_31 ?_
        refine r_icmp_lt d_X9_set_33 (fun c33 => ?_) (fun c33 => ?_)
        · -- taken at 33
          have c33 : q < 6 := (nI_ltI (a := q) (b := 6) (by omega) (by omega)).mp c33
          refine r_aload_4 d_X9_set_42 ?_
          refine r_get d_X9_set_44 s3_lines (xf_o hp) rfl ?_
          refine r_iload_2 d_X9_set_47 ?_
          refine r_iald d_X9_set_48 (xf_l hp) (pm_ixN (by omega) (by omega)) ?_
          refine r_istore_5 d_X9_set_49 (Nat.le_of_ble_eq_true rfl) (fun w hw => by cases hw <;> rfl) ?_
          refine r_aload_4 d_X9_set_51 ?_
          refine r_get d_X9_set_53 s3_lines (xf_o hp) rfl ?_
          refine r_iload_2 d_X9_set_56 ?_
          refine r_iload_3 d_X9_set_57 ?_
          refine r_iast d_X9_set_58 (xf_l hp) (pm_ixN (by omega) (by omega)) ?_
          rw [xf_up hp]
          refine r_iload_5 d_X9_set_59 ?_
          refine r_ireturn d_X9_set_61 ⟨_, rfl, rfl⟩ ?_
          exact ⟨rfl, rfl⟩
        · -- not taken at 33
          have c33 : ¬ q < 6 := fun zz9 => c33 ((nI_ltI (a := q) (b := 6) (by omega) (by omega)).mpr zz9)
          exfalso; omega
    · -- not taken at 21
      have c21 : ¬ w ≤ 9 := fun zz9 => c21 ((nI_leI (a := w) (b := 9) (by omega) (by omega)).mpr zz9)
      exfalso; omega
set_option maxRecDepth 10000 in
set_option maxHeartbeats 4000000 in
theorem c_X9_get_bad {h : pm_H} {xi : Nat → Int32} {xl : Nat → Int64} {xc : Nat → Option Nat} {XA : Nat → Nat → Int32} {XB : Nat → Nat → Int64} {f i : Int32} (hf : sp_in f 0 7 = false) : pm_Cv e_X9_get [.ref 1, .int f, .int i] (pmX h xi xl xc XA XB) (.int (-1)) (pmX h xi xl xc XA XB) := by
  refine pm_enter rfl (Nat.le_of_ble_eq_true rfl) ?_
  show pm_V e_X9_get 0 [some (.ref 1), some (.int f), some (.int i), none] [] (pmX h xi xl xc XA XB) (0, 0) _
  refine r_aload_0 d_X9_get_0 ?_
  refine r_iload_1 d_X9_get_1 ?_
  refine r_V1 d_X9_get_2 (c_X9_figureAt_no hf) rfl rfl rfl ⟨rfl, rfl⟩ (Nat.le_of_ble_eq_true rfl) ?_
  refine r_astoreN_3 d_X9_get_5 (Nat.le_of_ble_eq_true rfl) (fun w hw => by cases hw <;> rfl) ?_
  refine r_aloadN_3 d_X9_get_6 ?_
  refine r_ifnonnullN d_X9_get_7 ?_
  refine r_push d_X9_get_10 ?_
  refine r_ireturn d_X9_get_11 ⟨_, rfl, rfl⟩ ?_
  exact ⟨rfl, rfl⟩
set_option maxRecDepth 10000 in
set_option maxHeartbeats 4000000 in
theorem c_X9_get_far {h : pm_H} {xi : Nat → Int32} {xl : Nat → Int64} {xc : Nat → Option Nat} {XA : Nat → Nat → Int32} {XB : Nat → Nat → Int64} {p : Nat} {i : Int32} (hp : p < 8) (hx : sp_in i 0 5 = false) : pm_Cv e_X9_get [.ref 1, .int (nI p), .int i] (pmX h xi xl xc XA XB) (.int (-3)) (x_meet h xi xl xc XA XB 2) := by
  refine pm_enter rfl (Nat.le_of_ble_eq_true rfl) ?_
  show pm_V e_X9_get 0 [some (.ref 1), some (.int (nI p)), some (.int i), none] [] (pmX h xi xl xc XA XB) (0, 0) _
  refine r_aload_0 d_X9_get_0 ?_
  refine r_iload_1 d_X9_get_1 ?_
  refine r_V1 d_X9_get_2 (c_X9_figureAt hp) rfl rfl rfl ⟨rfl, rfl⟩ (Nat.le_of_ble_eq_true rfl) ?_
  refine r_astore_3 d_X9_get_5 (Nat.le_of_ble_eq_true rfl) (fun w hw => by cases hw <;> rfl) ?_
  refine r_aload_3 d_X9_get_6 ?_
  refine r_ifnonnull d_X9_get_7 ?_
  refine r_iload_2 d_X9_get_12 ?_
  refine r_if_lt d_X9_get_13 (fun c13 => ?_) (fun c13 => ?_)
  · -- taken at 13
    refine r_aload_0 d_X9_get_22 ?_
    refine r_push (v := nI 2) d_X9_get_23 ?_
    refine r_V1 d_X9_get_24 (c_X9_found (w := 2) (by decide)) rfl rfl rfl ⟨rfl, rfl⟩ (Nat.le_of_ble_eq_true rfl) ?_
    refine r_ireturn d_X9_get_27 ⟨_, rfl, rfl⟩ ?_
    exact ⟨rfl, rfl⟩
  · -- not taken at 13
    refine r_iload_2 d_X9_get_16 ?_
    refine r_push (v := nI 6) d_X9_get_17 ?_
    refine r_icmp_lt d_X9_get_19 (fun c19 => ?_) (fun c19 => ?_)
    · -- taken at 19
      exact absurd (sp_in_56 c13 c19) (by rw [hx]; decide)
    · -- not taken at 19
      refine r_aload_0 d_X9_get_22 ?_
      refine r_push (v := nI 2) d_X9_get_23 ?_
      refine r_V1 d_X9_get_24 (c_X9_found (w := 2) (by decide)) rfl rfl rfl ⟨rfl, rfl⟩ (Nat.le_of_ble_eq_true rfl) ?_
      refine r_ireturn d_X9_get_27 ⟨_, rfl, rfl⟩ ?_
      exact ⟨rfl, rfl⟩
set_option maxRecDepth 10000 in
set_option maxHeartbeats 4000000 in
theorem c_X9_get {h : pm_H} {xi : Nat → Int32} {xl : Nat → Int64} {xc : Nat → Option Nat} {XA : Nat → Nat → Int32} {XB : Nat → Nat → Int64} {p q : Nat} (hp : p < 8) (hq : q < 6) : pm_Cv e_X9_get [.ref 1, .int (nI p), .int (nI q)] (pmX h xi xl xc XA XB) (.int (XA (21 + 2 * p) q)) (pmX h xi xl xc XA XB) := by
  refine pm_enter rfl (Nat.le_of_ble_eq_true rfl) ?_
  show pm_V e_X9_get 0 [some (.ref 1), some (.int (nI p)), some (.int (nI q)), none] [] (pmX h xi xl xc XA XB) (0, 0) _
  refine r_aload_0 d_X9_get_0 ?_
  refine r_iload_1 d_X9_get_1 ?_
  refine r_V1 d_X9_get_2 (c_X9_figureAt hp) rfl rfl rfl ⟨rfl, rfl⟩ (Nat.le_of_ble_eq_true rfl) ?_
  refine r_astore_3 d_X9_get_5 (Nat.le_of_ble_eq_true rfl) (fun w hw => by cases hw <;> rfl) ?_
  refine r_aload_3 d_X9_get_6 ?_
  refine r_ifnonnull d_X9_get_7 ?_
  refine r_iload_2 d_X9_get_12 ?_
  refine r_if_lt d_X9_get_13 (fun c13 => ?_) (fun c13 => ?_)
  · -- taken at 13
    have c13 : q < 0 := (nI_ltI (a := q) (b := 0) (by omega) (by omega)).mp c13
    exfalso; omega
  · -- not taken at 13
    have c13 : ¬ q < 0 := fun zz9 => c13 ((nI_ltI (a := q) (b := 0) (by omega) (by omega)).mpr zz9)
    refine r_iload_2 d_X9_get_16 ?_
    refine r_push (v := nI 6) d_X9_get_17 ?_
    refine r_icmp_lt d_X9_get_19 (fun c19 => ?_) (fun c19 => ?_)
    · -- taken at 19
      have c19 : q < 6 := (nI_ltI (a := q) (b := 6) (by omega) (by omega)).mp c19
      refine r_aload_3 d_X9_get_28 ?_
      refine r_get d_X9_get_29 s3_lines (xf_o hp) rfl ?_
      refine r_iload_2 d_X9_get_32 ?_
      refine r_iald d_X9_get_33 (xf_l hp) (pm_ixN (by omega) (by omega)) ?_
      refine r_ireturn d_X9_get_34 ⟨_, rfl, rfl⟩ ?_
      exact ⟨rfl, rfl⟩
    · -- not taken at 19
      have c19 : ¬ q < 6 := fun zz9 => c19 ((nI_ltI (a := q) (b := 6) (by omega) (by omega)).mpr zz9)
      exfalso; omega
set_option maxRecDepth 10000 in
set_option maxHeartbeats 4000000 in
theorem c_X9_number_bad {h : pm_H} {xi : Nat → Int32} {xl : Nat → Int64} {xc : Nat → Option Nat} {XA : Nat → Nat → Int32} {XB : Nat → Nat → Int64} {f : Int32} (hf : sp_in f 0 7 = false) : pm_Cv e_X9_number [.ref 1, .int f] (pmX h xi xl xc XA XB) (.int (-1)) (pmX h xi xl xc XA XB) := by
  refine pm_enter rfl (Nat.le_of_ble_eq_true rfl) ?_
  show pm_V e_X9_number 0 [some (.ref 1), some (.int f), none] [] (pmX h xi xl xc XA XB) (0, 0) _
  refine r_aload_0 d_X9_number_0 ?_
  refine r_iload_1 d_X9_number_1 ?_
  refine r_V1 d_X9_number_2 (c_X9_figureAt_no hf) rfl rfl rfl ⟨rfl, rfl⟩ (Nat.le_of_ble_eq_true rfl) ?_
  refine r_astoreN_2 d_X9_number_5 (Nat.le_of_ble_eq_true rfl) (fun w hw => by cases hw <;> rfl) ?_
  refine r_aloadN_2 d_X9_number_6 ?_
  refine r_ifnonnullN d_X9_number_7 ?_
  refine r_push d_X9_number_10 ?_
  refine r_goto d_X9_number_11 ?_
  refine r_ireturn d_X9_number_18 ⟨_, rfl, rfl⟩ ?_
  exact ⟨rfl, rfl⟩
set_option maxRecDepth 10000 in
set_option maxHeartbeats 4000000 in
theorem c_X9_number {h : pm_H} {xi : Nat → Int32} {xl : Nat → Int64} {xc : Nat → Option Nat} {XA : Nat → Nat → Int32} {XB : Nat → Nat → Int64} {p : Nat} {g : Nat → Nat} (hp : p < 8) (hf : ∀ j, j < 6 → XA (21 + 2 * p) j = nI (g j)) (hg : ∀ j, j < 6 → 6 ≤ g j ∧ g j ≤ 9) : pm_Cv e_X9_number [.ref 1, .int (nI p)] (pmX h xi xl xc XA XB) (.int (nI (sp_b g 6))) (pmX h xi xl xc XA XB) := by
  refine pm_enter rfl (Nat.le_of_ble_eq_true rfl) ?_
  show pm_V e_X9_number 0 [some (.ref 1), some (.int (nI p)), none] [] (pmX h xi xl xc XA XB) (0, 0) _
  refine r_aload_0 d_X9_number_0 ?_
  refine r_iload_1 d_X9_number_1 ?_
  refine r_V1 d_X9_number_2 (c_X9_figureAt hp) rfl rfl rfl ⟨rfl, rfl⟩ (Nat.le_of_ble_eq_true rfl) ?_
  refine r_astore_2 d_X9_number_5 (Nat.le_of_ble_eq_true rfl) (fun w hw => by cases hw <;> rfl) ?_
  refine r_aload_2 d_X9_number_6 ?_
  refine r_ifnonnull d_X9_number_7 ?_
  refine r_aload_2 d_X9_number_14 ?_
  refine r_V0 d_X9_number_15 (c_X3_bits (xf_o hp) (xf_l hp) hf hg) (xf_o hp) rfl rfl ⟨rfl, rfl⟩ (Nat.le_of_ble_eq_true rfl) ?_
  refine r_ireturn d_X9_number_18 ⟨_, rfl, rfl⟩ ?_
  exact ⟨rfl, rfl⟩
def x_ch (XA X1 : Nat → Nat → Int32) (p : Nat) : Prop := ∀ q, q ≠ 5 → q ≠ 21 + 2 * p → X1 q = XA q
set_option maxRecDepth 10000 in
set_option maxHeartbeats 4000000 in
theorem c_X9_act_bad1a {h : pm_H} {xi : Nat → Int32} {xl : Nat → Int64} {xc : Nat → Option Nat} {XA : Nat → Nat → Int32} {XB : Nat → Nat → Int64} {f t u : Int32} (hf : sp_in f 0 7 = false) (hu : sp_in u 0 7 = false) : pm_Cv e_X9_act [.ref 1, .int f, .int t, .int u] (pmX h xi xl xc XA XB) (.int (-1)) (pmX h xi xl xc XA XB) := by
  refine pm_enter rfl (Nat.le_of_ble_eq_true rfl) ?_
  show pm_V e_X9_act 0 [some (.ref 1), some (.int f), some (.int t), some (.int u), none, none] [] (pmX h xi xl xc XA XB) (0, 0) _
  refine r_aload_0 d_X9_act_0 ?_
  refine r_iload_1 d_X9_act_1 ?_
  refine r_V1 d_X9_act_2 (c_X9_figureAt_no hf) rfl rfl rfl ⟨rfl, rfl⟩ (Nat.le_of_ble_eq_true rfl) ?_
  refine r_astoreN_4 d_X9_act_5 (Nat.le_of_ble_eq_true rfl) (fun w hw => by cases hw <;> rfl) ?_
  refine r_aload_0 d_X9_act_7 ?_
  refine r_iload_3 d_X9_act_8 ?_
  refine r_V1 d_X9_act_9 (c_X9_figureAt_no hu) rfl rfl rfl ⟨rfl, rfl⟩ (Nat.le_of_ble_eq_true rfl) ?_
  refine r_astoreN_5 d_X9_act_12 (Nat.le_of_ble_eq_true rfl) (fun w hw => by cases hw <;> rfl) ?_
  refine r_aloadN_4 d_X9_act_14 ?_
  refine r_ifnullN d_X9_act_16 ?_
  refine r_push d_X9_act_33 ?_
  refine r_ireturn d_X9_act_34 ⟨_, rfl, rfl⟩ ?_
  exact ⟨rfl, rfl⟩
set_option maxRecDepth 10000 in
set_option maxHeartbeats 4000000 in
theorem c_X9_act_bad1b {h : pm_H} {xi : Nat → Int32} {xl : Nat → Int64} {xc : Nat → Option Nat} {XA : Nat → Nat → Int32} {XB : Nat → Nat → Int64} {f t : Int32} {q : Nat} (hf : sp_in f 0 7 = false) (hq : q < 8) : pm_Cv e_X9_act [.ref 1, .int f, .int t, .int (nI q)] (pmX h xi xl xc XA XB) (.int (-1)) (pmX h xi xl xc XA XB) := by
  refine pm_enter rfl (Nat.le_of_ble_eq_true rfl) ?_
  show pm_V e_X9_act 0 [some (.ref 1), some (.int f), some (.int t), some (.int (nI q)), none, none] [] (pmX h xi xl xc XA XB) (0, 0) _
  refine r_aload_0 d_X9_act_0 ?_
  refine r_iload_1 d_X9_act_1 ?_
  refine r_V1 d_X9_act_2 (c_X9_figureAt_no hf) rfl rfl rfl ⟨rfl, rfl⟩ (Nat.le_of_ble_eq_true rfl) ?_
  refine r_astoreN_4 d_X9_act_5 (Nat.le_of_ble_eq_true rfl) (fun w hw => by cases hw <;> rfl) ?_
  refine r_aload_0 d_X9_act_7 ?_
  refine r_iload_3 d_X9_act_8 ?_
  refine r_V1 d_X9_act_9 (c_X9_figureAt hq) rfl rfl rfl ⟨rfl, rfl⟩ (Nat.le_of_ble_eq_true rfl) ?_
  refine r_astore_5 d_X9_act_12 (Nat.le_of_ble_eq_true rfl) (fun w hw => by cases hw <;> rfl) ?_
  refine r_aloadN_4 d_X9_act_14 ?_
  refine r_ifnullN d_X9_act_16 ?_
  refine r_push d_X9_act_33 ?_
  refine r_ireturn d_X9_act_34 ⟨_, rfl, rfl⟩ ?_
  exact ⟨rfl, rfl⟩
set_option maxRecDepth 10000 in
set_option maxHeartbeats 4000000 in
theorem c_X9_act_bad2 {h : pm_H} {xi : Nat → Int32} {xl : Nat → Int64} {xc : Nat → Option Nat} {XA : Nat → Nat → Int32} {XB : Nat → Nat → Int64} {t u : Int32} {p : Nat} (hp : p < 8) (hu : sp_in u 0 7 = false) : pm_Cv e_X9_act [.ref 1, .int (nI p), .int t, .int u] (pmX h xi xl xc XA XB) (.int (-1)) (pmX h xi xl xc XA XB) := by
  refine pm_enter rfl (Nat.le_of_ble_eq_true rfl) ?_
  show pm_V e_X9_act 0 [some (.ref 1), some (.int (nI p)), some (.int t), some (.int u), none, none] [] (pmX h xi xl xc XA XB) (0, 0) _
  refine r_aload_0 d_X9_act_0 ?_
  refine r_iload_1 d_X9_act_1 ?_
  refine r_V1 d_X9_act_2 (c_X9_figureAt hp) rfl rfl rfl ⟨rfl, rfl⟩ (Nat.le_of_ble_eq_true rfl) ?_
  refine r_astore_4 d_X9_act_5 (Nat.le_of_ble_eq_true rfl) (fun w hw => by cases hw <;> rfl) ?_
  refine r_aload_0 d_X9_act_7 ?_
  refine r_iload_3 d_X9_act_8 ?_
  refine r_V1 d_X9_act_9 (c_X9_figureAt_no hu) rfl rfl rfl ⟨rfl, rfl⟩ (Nat.le_of_ble_eq_true rfl) ?_
  refine r_astoreN_5 d_X9_act_12 (Nat.le_of_ble_eq_true rfl) (fun w hw => by cases hw <;> rfl) ?_
  refine r_aload_4 d_X9_act_14 ?_
  refine r_ifnull d_X9_act_16 ?_
  refine r_aloadN_5 d_X9_act_19 ?_
  refine r_ifnullN d_X9_act_21 ?_
  refine r_push d_X9_act_33 ?_
  refine r_ireturn d_X9_act_34 ⟨_, rfl, rfl⟩ ?_
  exact ⟨rfl, rfl⟩
set_option maxRecDepth 10000 in
set_option maxHeartbeats 4000000 in
theorem c_X9_act_bad3 {h : pm_H} {xi : Nat → Int32} {xl : Nat → Int64} {xc : Nat → Option Nat} {XA : Nat → Nat → Int32} {XB : Nat → Nat → Int64} {t : Int32} {p q : Nat} (hp : p < 8) (hq : q < 8) (ht : sp_in t 0 3 = false) : pm_Cv e_X9_act [.ref 1, .int (nI p), .int t, .int (nI q)] (pmX h xi xl xc XA XB) (.int (-1)) (pmX h xi xl xc XA XB) := by
  refine pm_enter rfl (Nat.le_of_ble_eq_true rfl) ?_
  show pm_V e_X9_act 0 [some (.ref 1), some (.int (nI p)), some (.int t), some (.int (nI q)), none, none] [] (pmX h xi xl xc XA XB) (0, 0) _
  refine r_aload_0 d_X9_act_0 ?_
  refine r_iload_1 d_X9_act_1 ?_
  refine r_V1 d_X9_act_2 (c_X9_figureAt hp) rfl rfl rfl ⟨rfl, rfl⟩ (Nat.le_of_ble_eq_true rfl) ?_
  refine r_astore_4 d_X9_act_5 (Nat.le_of_ble_eq_true rfl) (fun w hw => by cases hw <;> rfl) ?_
  refine r_aload_0 d_X9_act_7 ?_
  refine r_iload_3 d_X9_act_8 ?_
  refine r_V1 d_X9_act_9 (c_X9_figureAt hq) rfl rfl rfl ⟨rfl, rfl⟩ (Nat.le_of_ble_eq_true rfl) ?_
  refine r_astore_5 d_X9_act_12 (Nat.le_of_ble_eq_true rfl) (fun w hw => by cases hw <;> rfl) ?_
  refine r_aload_4 d_X9_act_14 ?_
  refine r_ifnull d_X9_act_16 ?_
  refine r_aload_5 d_X9_act_19 ?_
  refine r_ifnull d_X9_act_21 ?_
  refine r_iload_2 d_X9_act_24 ?_
  refine r_if_lt d_X9_act_25 (fun c25 => ?_) (fun c25 => ?_)
  · -- taken at 25
    refine r_push d_X9_act_33 ?_
    refine r_ireturn d_X9_act_34 ⟨_, rfl, rfl⟩ ?_
    exact ⟨rfl, rfl⟩
  · -- not taken at 25
    refine r_iload_2 d_X9_act_28 ?_
    refine r_push d_X9_act_29 ?_
    refine r_icmp_le d_X9_act_30 (fun c30 => ?_) (fun c30 => ?_)
    · -- taken at 30
      exact absurd ⟨Int32.not_lt.mp c25, c30⟩ (of_decide_eq_false ht)
    · -- not taken at 30
      refine r_push d_X9_act_33 ?_
      refine r_ireturn d_X9_act_34 ⟨_, rfl, rfl⟩ ?_
      exact ⟨rfl, rfl⟩
set_option maxRecDepth 10000 in
set_option maxHeartbeats 4000000 in
theorem c_X9_act {h : pm_H} {xi : Nat → Int32} {xl : Nat → Int64} {xc : Nat → Option Nat} {XA : Nat → Nat → Int32} {XB : Nat → Nat → Int64} {p q t : Nat} {g : Nat → Nat} (hp : p < 8) (hq : q < 8) (ht : t < 4) (hf : ∀ j, j < 6 → XA (21 + 2 * p) j = nI (g j)) (hg : ∀ j, j < 6 → 6 ≤ g j ∧ g j ≤ 9) : pm_Cl e_X9_act [.ref 1, .int (nI p), .int (nI t), .int (nI q)] (pmX h xi xl xc XA XB) (fun v9 h1 => v9 = some (.int (nI (sp_b (sp_act t g) 6))) ∧ ∃ X1, h1 = pmX h xi xl xc X1 XB ∧ x_ch XA X1 q ∧ ∀ j, j < 6 → X1 (21 + 2 * q) j = nI (sp_act t g j)) := by
  have hb : ∀ j, j < 6 → va_cpy (pm_fc (fun j => nI (sp_act t g j)) (XA 5) 6) ((va_up XA 5 (pm_fc (fun j => nI (sp_act t g j)) (XA 5) 6)) (21 + 2 * q)) 0 0 6 j = nI (sp_act t g j) := fun j hj => by
    rw [show va_cpy (pm_fc (fun j => nI (sp_act t g j)) (XA 5) 6) ((va_up XA 5 (pm_fc (fun j => nI (sp_act t g j)) (XA 5) 6)) (21 + 2 * q)) 0 0 6 j = (pm_fc (fun j => nI (sp_act t g j)) (XA 5) 6) j from (by simp only [va_cpy]; rw [if_pos (by omega)]; simp)]
    exact pm_fc_in hj
  have hc9 : ∀ j, j < 6 → va_up (va_up XA 5 (pm_fc (fun j => nI (sp_act t g j)) (XA 5) 6)) (21 + 2 * q) (va_cpy (pm_fc (fun j => nI (sp_act t g j)) (XA 5) 6) ((va_up XA 5 (pm_fc (fun j => nI (sp_act t g j)) (XA 5) 6)) (21 + 2 * q)) 0 0 6) (21 + 2 * q) j = nI (sp_act t g j) := fun j hj => by
    rw [show va_up (va_up XA 5 (pm_fc (fun j => nI (sp_act t g j)) (XA 5) 6)) (21 + 2 * q) (va_cpy (pm_fc (fun j => nI (sp_act t g j)) (XA 5) 6) ((va_up XA 5 (pm_fc (fun j => nI (sp_act t g j)) (XA 5) 6)) (21 + 2 * q)) 0 0 6) (21 + 2 * q) = va_cpy (pm_fc (fun j => nI (sp_act t g j)) (XA 5) 6) ((va_up XA 5 (pm_fc (fun j => nI (sp_act t g j)) (XA 5) 6)) (21 + 2 * q)) 0 0 6 from if_pos rfl]
    exact hb j hj
  have hac : ∀ j, j < 6 → 6 ≤ sp_act t g j ∧ sp_act t g j ≤ 9 := fun j hj => sp_act_in (t := t) hg hj
  refine pm_enter rfl (Nat.le_of_ble_eq_true rfl) ?_
  show pm_V e_X9_act 0 [some (.ref 1), some (.int (nI p)), some (.int (nI t)), some (.int (nI q)), none, none] [] (pmX h xi xl xc XA XB) (0, 0) _
  refine r_aload_0 d_X9_act_0 ?_
  refine r_iload_1 d_X9_act_1 ?_
  refine r_V1 d_X9_act_2 (c_X9_figureAt hp) rfl rfl rfl ⟨rfl, rfl⟩ (Nat.le_of_ble_eq_true rfl) ?_
  refine r_astore_4 d_X9_act_5 (Nat.le_of_ble_eq_true rfl) (fun w hw => by cases hw <;> rfl) ?_
  refine r_aload_0 d_X9_act_7 ?_
  refine r_iload_3 d_X9_act_8 ?_
  refine r_V1 d_X9_act_9 (c_X9_figureAt hq) rfl rfl rfl ⟨rfl, rfl⟩ (Nat.le_of_ble_eq_true rfl) ?_
  refine r_astore_5 d_X9_act_12 (Nat.le_of_ble_eq_true rfl) (fun w hw => by cases hw <;> rfl) ?_
  refine r_aload_4 d_X9_act_14 ?_
  refine r_ifnull d_X9_act_16 ?_
  refine r_aload_5 d_X9_act_19 ?_
  refine r_ifnull d_X9_act_21 ?_
  refine r_iload_2 d_X9_act_24 ?_
  refine r_if_lt d_X9_act_25 (fun c25 => ?_) (fun c25 => ?_)
  · -- taken at 25
    have c25 : t < 0 := (nI_ltI (a := t) (b := 0) (by omega) (by omega)).mp c25
    exfalso; omega
  · -- not taken at 25
    have c25 : ¬ t < 0 := fun zz9 => c25 ((nI_ltI (a := t) (b := 0) (by omega) (by omega)).mpr zz9)
    refine r_iload_2 d_X9_act_28 ?_
    refine r_push (v := nI 3) d_X9_act_29 ?_
    refine r_icmp_le d_X9_act_30 (fun c30 => ?_) (fun c30 => ?_)
    · -- taken at 30
      have c30 : t ≤ 3 := (nI_leI (a := t) (b := 3) (by omega) (by omega)).mp c30
      refine r_aload_0 d_X9_act_35 ?_
      refine r_get d_X9_act_36 s9_spare rfl rfl ?_
      refine r_iload_2 d_X9_act_39 ?_
      refine r_aload_4 d_X9_act_40 ?_
      refine r_V2v d_X9_act_42 (c_X3_becomeAfter (f := XA 5) rfl (xf_o hp) (by omega) (xf_l hp) (by omega) hf hg (by omega) rfl) rfl rfl rfl ⟨rfl, rfl⟩ (Nat.le_of_ble_eq_true rfl) ?_
      rw [pmX_5]
      refine r_aload_5 d_X9_act_45 ?_
      refine r_aload_0 d_X9_act_47 ?_
      refine r_get d_X9_act_48 s9_spare rfl rfl ?_
      refine r_V1v d_X9_act_51 (c_X3_become (xf_o hq) rfl (xf_l hq) rfl) (xf_o hq) rfl rfl ⟨rfl, rfl⟩ (Nat.le_of_ble_eq_true rfl) ?_
      rw [xf_up hq]
      refine r_aload_5 d_X9_act_54 ?_
      refine r_V0 d_X9_act_56 (c_X3_bits (xf_o hq) (xf_l hq) hc9 hac) (xf_o hq) rfl rfl ⟨rfl, rfl⟩ (Nat.le_of_ble_eq_true rfl) ?_
      refine r_ireturn d_X9_act_59 ⟨_, rfl, rfl⟩ ?_
      refine ⟨rfl, _, rfl, fun z h5 hz => ?_, hc9⟩
      exact (if_neg hz).trans (if_neg h5)
    · -- not taken at 30
      have c30 : ¬ t ≤ 3 := fun zz9 => c30 ((nI_leI (a := t) (b := 3) (by omega) (by omega)).mpr zz9)
      exfalso; omega
set_option maxRecDepth 10000 in
set_option maxHeartbeats 4000000 in
theorem c_X9_draw_bad1 {h : pm_H} {xi : Nat → Int32} {xl : Nat → Int64} {xc : Nat → Option Nat} {XA : Nat → Nat → Int32} {XB : Nat → Nat → Int64} {f c : Int32} {s : Int64} {cn : Nat} {C : Nat → sp_Cs} (hCC : x_CC h xi xc cn C) (hf : sp_in f 0 7 = false) (hci : pm_ci c cn = none) : pm_Cv e_X9_draw [.ref 1, .int f, .int c, .long s] (pmX h xi xl xc XA XB) (.int (-1)) (pmX h xi xl xc XA XB) := by
  refine pm_enter rfl (Nat.le_of_ble_eq_true rfl) ?_
  show pm_V e_X9_draw 0 [some (.ref 1), some (.int f), some (.int c), some (.long s), none, none, none] [] (pmX h xi xl xc XA XB) (0, 0) _
  refine r_aload_0 d_X9_draw_0 ?_
  refine r_iload_1 d_X9_draw_1 ?_
  refine r_V1 d_X9_draw_2 (c_X9_figureAt_no hf) rfl rfl rfl ⟨rfl, rfl⟩ (Nat.le_of_ble_eq_true rfl) ?_
  refine r_astoreN_5 d_X9_draw_5 (Nat.le_of_ble_eq_true rfl) (fun w hw => by cases hw <;> rfl) ?_
  refine r_aload_0 d_X9_draw_7 ?_
  refine r_iload_2 d_X9_draw_8 ?_
  refine r_V1 d_X9_draw_9 (c_X9_casterAt_no hCC.1 hci) rfl rfl rfl ⟨rfl, rfl⟩ (Nat.le_of_ble_eq_true rfl) ?_
  refine r_astoreN_6 d_X9_draw_12 (Nat.le_of_ble_eq_true rfl) (fun w hw => by cases hw <;> rfl) ?_
  refine r_aloadN_5 d_X9_draw_14 ?_
  refine r_ifnullN d_X9_draw_16 ?_
  refine r_push d_X9_draw_24 ?_
  refine r_ireturn d_X9_draw_25 ⟨_, rfl, rfl⟩ ?_
  exact ⟨rfl, rfl⟩
set_option maxRecDepth 10000 in
set_option maxHeartbeats 4000000 in
theorem c_X9_draw_bad1b {h : pm_H} {xi : Nat → Int32} {xl : Nat → Int64} {xc : Nat → Option Nat} {XA : Nat → Nat → Int32} {XB : Nat → Nat → Int64} {f : Int32} {j : Nat} {s : Int64} {cn : Nat} {C : Nat → sp_Cs} (hCC : x_CC h xi xc cn C) (hf : sp_in f 0 7 = false) (hj : j < cn) : pm_Cv e_X9_draw [.ref 1, .int f, .int (nI j), .long s] (pmX h xi xl xc XA XB) (.int (-1)) (pmX h xi xl xc XA XB) := by
  refine pm_enter rfl (Nat.le_of_ble_eq_true rfl) ?_
  show pm_V e_X9_draw 0 [some (.ref 1), some (.int f), some (.int (nI j)), some (.long s), none, none, none] [] (pmX h xi xl xc XA XB) (0, 0) _
  refine r_aload_0 d_X9_draw_0 ?_
  refine r_iload_1 d_X9_draw_1 ?_
  refine r_V1 d_X9_draw_2 (c_X9_figureAt_no hf) rfl rfl rfl ⟨rfl, rfl⟩ (Nat.le_of_ble_eq_true rfl) ?_
  refine r_astoreN_5 d_X9_draw_5 (Nat.le_of_ble_eq_true rfl) (fun w hw => by cases hw <;> rfl) ?_
  refine r_aload_0 d_X9_draw_7 ?_
  refine r_iload_2 d_X9_draw_8 ?_
  refine r_V1 d_X9_draw_9 (c_X9_casterAt hCC hj) rfl rfl rfl ⟨rfl, rfl⟩ (Nat.le_of_ble_eq_true rfl) ?_
  refine r_astore_6 d_X9_draw_12 (Nat.le_of_ble_eq_true rfl) (fun w hw => by cases hw <;> rfl) ?_
  refine r_aloadN_5 d_X9_draw_14 ?_
  refine r_ifnullN d_X9_draw_16 ?_
  refine r_push d_X9_draw_24 ?_
  refine r_ireturn d_X9_draw_25 ⟨_, rfl, rfl⟩ ?_
  exact ⟨rfl, rfl⟩
set_option maxRecDepth 10000 in
set_option maxHeartbeats 4000000 in
theorem c_X9_draw_bad2 {h : pm_H} {xi : Nat → Int32} {xl : Nat → Int64} {xc : Nat → Option Nat} {XA : Nat → Nat → Int32} {XB : Nat → Nat → Int64} {p : Nat} {c : Int32} {s : Int64} {cn : Nat} {C : Nat → sp_Cs} (hCC : x_CC h xi xc cn C) (hp : p < 8) (hci : pm_ci c cn = none) : pm_Cv e_X9_draw [.ref 1, .int (nI p), .int c, .long s] (pmX h xi xl xc XA XB) (.int (-1)) (pmX h xi xl xc XA XB) := by
  refine pm_enter rfl (Nat.le_of_ble_eq_true rfl) ?_
  show pm_V e_X9_draw 0 [some (.ref 1), some (.int (nI p)), some (.int c), some (.long s), none, none, none] [] (pmX h xi xl xc XA XB) (0, 0) _
  refine r_aload_0 d_X9_draw_0 ?_
  refine r_iload_1 d_X9_draw_1 ?_
  refine r_V1 d_X9_draw_2 (c_X9_figureAt hp) rfl rfl rfl ⟨rfl, rfl⟩ (Nat.le_of_ble_eq_true rfl) ?_
  refine r_astore_5 d_X9_draw_5 (Nat.le_of_ble_eq_true rfl) (fun w hw => by cases hw <;> rfl) ?_
  refine r_aload_0 d_X9_draw_7 ?_
  refine r_iload_2 d_X9_draw_8 ?_
  refine r_V1 d_X9_draw_9 (c_X9_casterAt_no hCC.1 hci) rfl rfl rfl ⟨rfl, rfl⟩ (Nat.le_of_ble_eq_true rfl) ?_
  refine r_astoreN_6 d_X9_draw_12 (Nat.le_of_ble_eq_true rfl) (fun w hw => by cases hw <;> rfl) ?_
  refine r_aload_5 d_X9_draw_14 ?_
  refine r_ifnull d_X9_draw_16 ?_
  refine r_aloadN_6 d_X9_draw_19 ?_
  refine r_ifnonnullN d_X9_draw_21 ?_
  refine r_push d_X9_draw_24 ?_
  refine r_ireturn d_X9_draw_25 ⟨_, rfl, rfl⟩ ?_
  exact ⟨rfl, rfl⟩
set_option maxRecDepth 10000 in
set_option maxHeartbeats 4000000 in
theorem c_X9_draw_no {h : pm_H} {xi : Nat → Int32} {xl : Nat → Int64} {xc : Nat → Option Nat} {XA : Nat → Nat → Int32} {XB : Nat → Nat → Int64} {p j : Nat} {s : Int64} {cn : Nat} {C : Nat → sp_Cs} (hCC : x_CC h xi xc cn C) (hp : p < 8) (hj : j < cn) (hfit : sp_fit (sp_ln (C j).1 (C j).2.1 (C j).2.2.1 (C j).2.2.2.1 (C j).2.2.2.2.1 (C j).2.2.2.2.2 s) 6 = 0) : pm_Cv e_X9_draw [.ref 1, .int (nI p), .int (nI j), .long s] (pmX h xi xl xc XA XB) (.int (-4)) (pmX h xi (vp_updL xl 3 (sp_sd (C j).1 (C j).2.1 (C j).2.2.1 (C j).2.2.2.1 (C j).2.2.2.2.1 (C j).2.2.2.2.2 s 6)) xc (va_up XA 5 (pm_fc (fun i => nI ((sp_ln (C j).1 (C j).2.1 (C j).2.2.1 (C j).2.2.2.1 (C j).2.2.2.2.1 (C j).2.2.2.2.2 s) i)) (XA 5) 6)) XB) := by
  have hcs := (pm_cs_X (h := h) (xi := xi) (xl := vp_updL xl 3 s) (xc := xc) (XA := XA) (XB := XB) (a := 68 + j) (by omega)).mpr (hCC.2.2 j hj).2
  have hll : ∀ x y : Int64, vp_updL (vp_updL xl 3 x) 3 y = vp_updL xl 3 y := fun x y => pm_luu xl 3 x y
  refine pm_enter rfl (Nat.le_of_ble_eq_true rfl) ?_
  show pm_V e_X9_draw 0 [some (.ref 1), some (.int (nI p)), some (.int (nI j)), some (.long s), none, none, none] [] (pmX h xi xl xc XA XB) (0, 0) _
  refine r_aload_0 d_X9_draw_0 ?_
  refine r_iload_1 d_X9_draw_1 ?_
  refine r_V1 d_X9_draw_2 (c_X9_figureAt hp) rfl rfl rfl ⟨rfl, rfl⟩ (Nat.le_of_ble_eq_true rfl) ?_
  refine r_astore_5 d_X9_draw_5 (Nat.le_of_ble_eq_true rfl) (fun w hw => by cases hw <;> rfl) ?_
  refine r_aload_0 d_X9_draw_7 ?_
  refine r_iload_2 d_X9_draw_8 ?_
  refine r_V1 d_X9_draw_9 (c_X9_casterAt hCC hj) rfl rfl rfl ⟨rfl, rfl⟩ (Nat.le_of_ble_eq_true rfl) ?_
  refine r_astore_6 d_X9_draw_12 (Nat.le_of_ble_eq_true rfl) (fun w hw => by cases hw <;> rfl) ?_
  refine r_aload_5 d_X9_draw_14 ?_
  refine r_ifnull d_X9_draw_16 ?_
  refine r_aload_6 d_X9_draw_19 ?_
  refine r_ifnonnull d_X9_draw_21 ?_
  refine r_aload_0 d_X9_draw_26 ?_
  refine r_get d_X9_draw_27 s9_seed rfl rfl ?_
  refine r_lload_3 d_X9_draw_30 ?_
  refine r_V1v d_X9_draw_31 (c_X5_begin (s := xl 3) rfl) rfl rfl rfl ⟨rfl, rfl⟩ (Nat.le_of_ble_eq_true rfl) ?_
  rw [pmX_12]
  refine r_aload_0 d_X9_draw_34 ?_
  refine r_get d_X9_draw_35 s9_spare rfl rfl ?_
  refine r_aload_6 d_X9_draw_38 ?_
  refine r_aload_0 d_X9_draw_40 ?_
  refine r_get d_X9_draw_41 s9_seed rfl rfl ?_
  refine r_V2 d_X9_draw_44 (c_X3_castBy (s := s) (g := XA 5) rfl hcs (by omega) (by omega) rfl rfl) rfl rfl rfl ⟨rfl, rfl⟩ (Nat.le_of_ble_eq_true rfl) ?_
  rw [pmX_12, hll, pmX_5, hfit]
  refine r_if_ne d_X9_draw_47 (fun c47 => absurd (by decide) c47) (fun c47 => ?_)
  clear c47
  refine r_push d_X9_draw_50 ?_
  refine r_ireturn d_X9_draw_52 ⟨_, rfl, rfl⟩ ?_
  exact ⟨rfl, rfl⟩
set_option maxRecDepth 10000 in
set_option maxHeartbeats 4000000 in
theorem c_X9_draw {h : pm_H} {xi : Nat → Int32} {xl : Nat → Int64} {xc : Nat → Option Nat} {XA : Nat → Nat → Int32} {XB : Nat → Nat → Int64} {p j : Nat} {s : Int64} {cn : Nat} {C : Nat → sp_Cs} (hCC : x_CC h xi xc cn C) (hp : p < 8) (hj : j < cn) (hfit : sp_fit (sp_ln (C j).1 (C j).2.1 (C j).2.2.1 (C j).2.2.2.1 (C j).2.2.2.2.1 (C j).2.2.2.2.2 s) 6 = 1) : pm_Cl e_X9_draw [.ref 1, .int (nI p), .int (nI j), .long s] (pmX h xi xl xc XA XB) (fun v9 h1 => v9 = some (.int (nI (sp_old (sp_ln (C j).1 (C j).2.1 (C j).2.2.1 (C j).2.2.2.1 (C j).2.2.2.2.1 (C j).2.2.2.2.2 s) 6))) ∧ ∃ X1, h1 = pmX h xi (vp_updL xl 3 (sp_sd (C j).1 (C j).2.1 (C j).2.2.1 (C j).2.2.2.1 (C j).2.2.2.2.1 (C j).2.2.2.2.2 s 6)) xc X1 XB ∧ x_ch XA X1 p ∧ ∀ i, i < 6 → X1 (21 + 2 * p) i = nI ((sp_ln (C j).1 (C j).2.1 (C j).2.2.1 (C j).2.2.2.1 (C j).2.2.2.2.1 (C j).2.2.2.2.2 s) i)) := by
  have hcs := (pm_cs_X (h := h) (xi := xi) (xl := vp_updL xl 3 s) (xc := xc) (XA := XA) (XB := XB) (a := 68 + j) (by omega)).mpr (hCC.2.2 j hj).2
  have hll : ∀ x y : Int64, vp_updL (vp_updL xl 3 x) 3 y = vp_updL xl 3 y := fun x y => pm_luu xl 3 x y
  have hc9 : ∀ i, i < 6 → va_up (va_up XA 5 (pm_fc (fun i => nI ((sp_ln (C j).1 (C j).2.1 (C j).2.2.1 (C j).2.2.2.1 (C j).2.2.2.2.1 (C j).2.2.2.2.2 s) i)) (XA 5) 6)) (21 + 2 * p) (va_cpy (pm_fc (fun i => nI ((sp_ln (C j).1 (C j).2.1 (C j).2.2.1 (C j).2.2.2.1 (C j).2.2.2.2.1 (C j).2.2.2.2.2 s) i)) (XA 5) 6) ((va_up XA 5 (pm_fc (fun i => nI ((sp_ln (C j).1 (C j).2.1 (C j).2.2.1 (C j).2.2.2.1 (C j).2.2.2.2.1 (C j).2.2.2.2.2 s) i)) (XA 5) 6)) (21 + 2 * p)) 0 0 6) (21 + 2 * p) i = nI ((sp_ln (C j).1 (C j).2.1 (C j).2.2.1 (C j).2.2.2.1 (C j).2.2.2.2.1 (C j).2.2.2.2.2 s) i) := fun i hid => by
    rw [show va_up (va_up XA 5 (pm_fc (fun i => nI ((sp_ln (C j).1 (C j).2.1 (C j).2.2.1 (C j).2.2.2.1 (C j).2.2.2.2.1 (C j).2.2.2.2.2 s) i)) (XA 5) 6)) (21 + 2 * p) (va_cpy (pm_fc (fun i => nI ((sp_ln (C j).1 (C j).2.1 (C j).2.2.1 (C j).2.2.2.1 (C j).2.2.2.2.1 (C j).2.2.2.2.2 s) i)) (XA 5) 6) ((va_up XA 5 (pm_fc (fun i => nI ((sp_ln (C j).1 (C j).2.1 (C j).2.2.1 (C j).2.2.2.1 (C j).2.2.2.2.1 (C j).2.2.2.2.2 s) i)) (XA 5) 6)) (21 + 2 * p)) 0 0 6) (21 + 2 * p) = va_cpy (pm_fc (fun i => nI ((sp_ln (C j).1 (C j).2.1 (C j).2.2.1 (C j).2.2.2.1 (C j).2.2.2.2.1 (C j).2.2.2.2.2 s) i)) (XA 5) 6) ((va_up XA 5 (pm_fc (fun i => nI ((sp_ln (C j).1 (C j).2.1 (C j).2.2.1 (C j).2.2.2.1 (C j).2.2.2.2.1 (C j).2.2.2.2.2 s) i)) (XA 5) 6)) (21 + 2 * p)) 0 0 6 from if_pos rfl]
    rw [show va_cpy (pm_fc (fun i => nI ((sp_ln (C j).1 (C j).2.1 (C j).2.2.1 (C j).2.2.2.1 (C j).2.2.2.2.1 (C j).2.2.2.2.2 s) i)) (XA 5) 6) ((va_up XA 5 (pm_fc (fun i => nI ((sp_ln (C j).1 (C j).2.1 (C j).2.2.1 (C j).2.2.2.1 (C j).2.2.2.2.1 (C j).2.2.2.2.2 s) i)) (XA 5) 6)) (21 + 2 * p)) 0 0 6 i = (pm_fc (fun i => nI ((sp_ln (C j).1 (C j).2.1 (C j).2.2.1 (C j).2.2.2.1 (C j).2.2.2.2.1 (C j).2.2.2.2.2 s) i)) (XA 5) 6) i from (by simp only [va_cpy]; rw [if_pos (by omega)]; simp)]
    exact pm_fc_in hid
  have hln : ∀ i, i < 6 → (sp_ln (C j).1 (C j).2.1 (C j).2.2.1 (C j).2.2.2.1 (C j).2.2.2.2.1 (C j).2.2.2.2.2 s) i ≤ 30 := fun i hid => by
    have := sp_fit_all hfit i hid
    omega
  refine pm_enter rfl (Nat.le_of_ble_eq_true rfl) ?_
  show pm_V e_X9_draw 0 [some (.ref 1), some (.int (nI p)), some (.int (nI j)), some (.long s), none, none, none] [] (pmX h xi xl xc XA XB) (0, 0) _
  refine r_aload_0 d_X9_draw_0 ?_
  refine r_iload_1 d_X9_draw_1 ?_
  refine r_V1 d_X9_draw_2 (c_X9_figureAt hp) rfl rfl rfl ⟨rfl, rfl⟩ (Nat.le_of_ble_eq_true rfl) ?_
  refine r_astore_5 d_X9_draw_5 (Nat.le_of_ble_eq_true rfl) (fun w hw => by cases hw <;> rfl) ?_
  refine r_aload_0 d_X9_draw_7 ?_
  refine r_iload_2 d_X9_draw_8 ?_
  refine r_V1 d_X9_draw_9 (c_X9_casterAt hCC hj) rfl rfl rfl ⟨rfl, rfl⟩ (Nat.le_of_ble_eq_true rfl) ?_
  refine r_astore_6 d_X9_draw_12 (Nat.le_of_ble_eq_true rfl) (fun w hw => by cases hw <;> rfl) ?_
  refine r_aload_5 d_X9_draw_14 ?_
  refine r_ifnull d_X9_draw_16 ?_
  refine r_aload_6 d_X9_draw_19 ?_
  refine r_ifnonnull d_X9_draw_21 ?_
  refine r_aload_0 d_X9_draw_26 ?_
  refine r_get d_X9_draw_27 s9_seed rfl rfl ?_
  refine r_lload_3 d_X9_draw_30 ?_
  refine r_V1v d_X9_draw_31 (c_X5_begin (s := xl 3) rfl) rfl rfl rfl ⟨rfl, rfl⟩ (Nat.le_of_ble_eq_true rfl) ?_
  rw [pmX_12]
  refine r_aload_0 d_X9_draw_34 ?_
  refine r_get d_X9_draw_35 s9_spare rfl rfl ?_
  refine r_aload_6 d_X9_draw_38 ?_
  refine r_aload_0 d_X9_draw_40 ?_
  refine r_get d_X9_draw_41 s9_seed rfl rfl ?_
  refine r_V2 d_X9_draw_44 (c_X3_castBy (s := s) (g := XA 5) rfl hcs (by omega) (by omega) rfl rfl) rfl rfl rfl ⟨rfl, rfl⟩ (Nat.le_of_ble_eq_true rfl) ?_
  rw [pmX_12, hll, pmX_5, hfit]
  refine r_if_ne d_X9_draw_47 (fun c47 => ?_) (fun c47 => absurd c47 (by decide))
  clear c47
  refine r_aload_5 d_X9_draw_53 ?_
  refine r_aload_0 d_X9_draw_55 ?_
  refine r_get d_X9_draw_56 s9_spare rfl rfl ?_
  refine r_V1v d_X9_draw_59 (c_X3_become (xf_o hp) rfl (xf_l hp) rfl) (xf_o hp) rfl rfl ⟨rfl, rfl⟩ (Nat.le_of_ble_eq_true rfl) ?_
  rw [xf_up hp]
  refine r_aload_5 d_X9_draw_62 ?_
  refine r_V0 d_X9_draw_64 (c_X3_oldLines (xf_o hp) (xf_l hp) hc9 hln) (xf_o hp) rfl rfl ⟨rfl, rfl⟩ (Nat.le_of_ble_eq_true rfl) ?_
  refine r_ireturn d_X9_draw_67 ⟨_, rfl, rfl⟩ ?_
  refine ⟨rfl, _, rfl, fun z h5 hz => ?_, hc9⟩
  exact (if_neg hz).trans (if_neg h5)
set_option maxRecDepth 10000 in
set_option maxHeartbeats 4000000 in
theorem c_X9_way_1 {h : pm_H} {xi : Nat → Int32} {xl : Nat → Int64} {xc : Nat → Option Nat} {XA : Nat → Nat → Int32} {XB : Nat → Nat → Int64} {x y w9 : Int32} (hx : sp_num x = false) : pm_Cv e_X9_way [.ref 1, .int x, .int y, .int w9] (pmX h xi xl xc XA XB) (.int (-1)) (pmX h xi xl xc XA XB) := by
  refine pm_enter rfl (Nat.le_of_ble_eq_true rfl) ?_
  show pm_V e_X9_way 0 [some (.ref 1), some (.int x), some (.int y), some (.int w9)] [] (pmX h xi xl xc XA XB) (0, 0) _
  refine r_iload_1 d_X9_way_0 ?_
  refine r_S1 d_X9_way_1 c_X9_isNumberB ⟨rfl, rfl⟩ (Nat.le_of_ble_eq_true rfl) ?_
  rw [hx]
  change pm_V _ _ _ (.int (nI 0) :: _) _ _ _
  refine r_if_eq d_X9_way_4 (fun c4 => ?_) (fun c4 => absurd (by decide) c4)
  clear c4
  refine r_push d_X9_way_25 ?_
  refine r_ireturn d_X9_way_26 ⟨_, rfl, rfl⟩ ?_
  exact ⟨rfl, rfl⟩
set_option maxRecDepth 10000 in
set_option maxHeartbeats 4000000 in
theorem c_X9_way_2 {h : pm_H} {xi : Nat → Int32} {xl : Nat → Int64} {xc : Nat → Option Nat} {XA : Nat → Nat → Int32} {XB : Nat → Nat → Int64} {x y w9 : Int32} (hx : sp_num x = true) (hy : sp_num y = false) : pm_Cv e_X9_way [.ref 1, .int x, .int y, .int w9] (pmX h xi xl xc XA XB) (.int (-1)) (pmX h xi xl xc XA XB) := by
  refine pm_enter rfl (Nat.le_of_ble_eq_true rfl) ?_
  show pm_V e_X9_way 0 [some (.ref 1), some (.int x), some (.int y), some (.int w9)] [] (pmX h xi xl xc XA XB) (0, 0) _
  refine r_iload_1 d_X9_way_0 ?_
  refine r_S1 d_X9_way_1 c_X9_isNumberB ⟨rfl, rfl⟩ (Nat.le_of_ble_eq_true rfl) ?_
  rw [hx]
  change pm_V _ _ _ (.int (nI 1) :: _) _ _ _
  refine r_if_eq d_X9_way_4 (fun c4 => absurd c4 (by decide)) (fun c4 => ?_)
  clear c4
  refine r_iload_2 d_X9_way_7 ?_
  refine r_S1 d_X9_way_8 c_X9_isNumberB ⟨rfl, rfl⟩ (Nat.le_of_ble_eq_true rfl) ?_
  rw [hy]
  change pm_V _ _ _ (.int (nI 0) :: _) _ _ _
  refine r_if_eq d_X9_way_11 (fun c11 => ?_) (fun c11 => absurd (by decide) c11)
  clear c11
  refine r_push d_X9_way_25 ?_
  refine r_ireturn d_X9_way_26 ⟨_, rfl, rfl⟩ ?_
  exact ⟨rfl, rfl⟩
set_option maxRecDepth 10000 in
set_option maxHeartbeats 4000000 in
theorem c_X9_way_3 {h : pm_H} {xi : Nat → Int32} {xl : Nat → Int64} {xc : Nat → Option Nat} {XA : Nat → Nat → Int32} {XB : Nat → Nat → Int64} {x y w9 : Int32} (hx : sp_num x = true) (hy : sp_num y = true) (hl : sp_in w9 0 511 = false) : pm_Cv e_X9_way [.ref 1, .int x, .int y, .int w9] (pmX h xi xl xc XA XB) (.int (-1)) (pmX h xi xl xc XA XB) := by
  refine pm_enter rfl (Nat.le_of_ble_eq_true rfl) ?_
  show pm_V e_X9_way 0 [some (.ref 1), some (.int x), some (.int y), some (.int w9)] [] (pmX h xi xl xc XA XB) (0, 0) _
  refine r_iload_1 d_X9_way_0 ?_
  refine r_S1 d_X9_way_1 c_X9_isNumberB ⟨rfl, rfl⟩ (Nat.le_of_ble_eq_true rfl) ?_
  rw [hx]
  change pm_V _ _ _ (.int (nI 1) :: _) _ _ _
  refine r_if_eq d_X9_way_4 (fun c4 => absurd c4 (by decide)) (fun c4 => ?_)
  clear c4
  refine r_iload_2 d_X9_way_7 ?_
  refine r_S1 d_X9_way_8 c_X9_isNumberB ⟨rfl, rfl⟩ (Nat.le_of_ble_eq_true rfl) ?_
  rw [hy]
  change pm_V _ _ _ (.int (nI 1) :: _) _ _ _
  refine r_if_eq d_X9_way_11 (fun c11 => absurd c11 (by decide)) (fun c11 => ?_)
  clear c11
  refine r_iload_3 d_X9_way_14 ?_
  refine r_if_lt d_X9_way_15 (fun c15 => ?_) (fun c15 => ?_)
  · -- taken at 15
    refine r_push d_X9_way_25 ?_
    refine r_ireturn d_X9_way_26 ⟨_, rfl, rfl⟩ ?_
    exact ⟨rfl, rfl⟩
  · -- not taken at 15
    refine r_iload_3 d_X9_way_18 ?_
    refine r_push d_X9_way_19 ?_
    refine r_icmp_lt d_X9_way_22 (fun c22 => ?_) (fun c22 => ?_)
    · -- taken at 22
      exact absurd (sp_in_511 c15 c22) (by rw [hl]; decide)
    · -- not taken at 22
      refine r_push d_X9_way_25 ?_
      refine r_ireturn d_X9_way_26 ⟨_, rfl, rfl⟩ ?_
      exact ⟨rfl, rfl⟩
