theorem pm_fitY {v : Int32} (h : vp_nar .byte v = v) : fits .byte (.int v) = true := by
  have h : v.toInt8.toInt32 = v := h
  rw [← h]
  generalize v.toInt8 = u
  have h1 := Int8.le_toInt u
  have h2 := Int8.toInt_lt u
  show (decide (-128 ≤ u.toInt32) && decide (u.toInt32 ≤ 127)) = true
  rw [Bool.and_eq_true, decide_eq_true_eq, decide_eq_true_eq, Int32.le_iff_toInt_le, Int32.le_iff_toInt_le, Int8.toInt_toInt32]
  have e1 : (-128 : Int32).toInt = -128 := by decide
  have e2 : (127 : Int32).toInt = 127 := by decide
  omega
theorem x_row {h : pm_H} {xi : Nat → Int32} {xl : Nat → Int64} {xc : Nat → Option Nat} {XA : Nat → Nat → Int32} {XB : Nat → Nat → Int64} {r : Nat} {x : Int32} (hr : r < 4) (hz : xi (3 + r) = x) : (pmX h xi xl xc XA XB).2 (36 + 2 * r) = some (.inr (0, [.ref (37 + 2 * r), .int x])) := by
  rw [← hz]; exact xr_o hr
theorem x_th {z : Nat} (h : z ≤ 64) : decide (0 ≤ nI z) = true := decide_eq_true ((nI_leI (a := 0) (b := z) (by omega) (by omega)).mpr (Nat.zero_le _))
set_option maxRecDepth 10000 in
set_option maxHeartbeats 4000000 in
theorem c_X9_row_bad1 {h : pm_H} {xi : Nat → Int32} {xl : Nat → Int64} {xc : Nat → Option Nat} {XA : Nat → Nat → Int32} {XB : Nat → Nat → Int64} {r n : Int32} (hr : sp_in r 0 3 = false) : pm_Cv e_X9_row [.ref 1, .int r, .int n] (pmX h xi xl xc XA XB) (.int (-1)) (pmX h xi xl xc XA XB) := by
  refine pm_enter rfl (Nat.le_of_ble_eq_true rfl) ?_
  show pm_V e_X9_row 0 [some (.ref 1), some (.int r), some (.int n), none] [] (pmX h xi xl xc XA XB) (0, 0) _
  refine r_aload_0 d_X9_row_0 ?_
  refine r_iload_1 d_X9_row_1 ?_
  refine r_V1 d_X9_row_2 (c_X9_rowAt_no hr) rfl rfl rfl ⟨rfl, rfl⟩ (Nat.le_of_ble_eq_true rfl) ?_
  refine r_astoreN_3 d_X9_row_5 (Nat.le_of_ble_eq_true rfl) (fun w hw => by cases hw <;> rfl) ?_
  refine r_aloadN_3 d_X9_row_6 ?_
  refine r_ifnullN d_X9_row_7 ?_
  refine r_push d_X9_row_16 ?_
  refine r_ireturn d_X9_row_17 ⟨_, rfl, rfl⟩ ?_
  exact ⟨rfl, rfl⟩
set_option maxRecDepth 10000 in
set_option maxHeartbeats 4000000 in
theorem c_X9_row_bad2 {h : pm_H} {xi : Nat → Int32} {xl : Nat → Int64} {xc : Nat → Option Nat} {XA : Nat → Nat → Int32} {XB : Nat → Nat → Int64} {r : Nat} {n : Int32} (hr : r < 4) (hn : 64 < n) : pm_Cv e_X9_row [.ref 1, .int (nI r), .int n] (pmX h xi xl xc XA XB) (.int (-1)) (pmX h xi xl xc XA XB) := by
  refine pm_enter rfl (Nat.le_of_ble_eq_true rfl) ?_
  show pm_V e_X9_row 0 [some (.ref 1), some (.int (nI r)), some (.int n), none] [] (pmX h xi xl xc XA XB) (0, 0) _
  refine r_aload_0 d_X9_row_0 ?_
  refine r_iload_1 d_X9_row_1 ?_
  refine r_V1 d_X9_row_2 (c_X9_rowAt hr) rfl rfl rfl ⟨rfl, rfl⟩ (Nat.le_of_ble_eq_true rfl) ?_
  refine r_astore_3 d_X9_row_5 (Nat.le_of_ble_eq_true rfl) (fun w hw => by cases hw <;> rfl) ?_
  refine r_aload_3 d_X9_row_6 ?_
  refine r_ifnull d_X9_row_7 ?_
  refine r_iload_2 d_X9_row_10 ?_
  refine r_push d_X9_row_11 ?_
  refine r_icmp_le d_X9_row_13 (fun c13 => ?_) (fun c13 => ?_)
  · -- taken at 13
    exact absurd c13 (Int32.not_le.mpr hn)
  · -- not taken at 13
    refine r_push d_X9_row_16 ?_
    refine r_ireturn d_X9_row_17 ⟨_, rfl, rfl⟩ ?_
    exact ⟨rfl, rfl⟩
set_option maxRecDepth 10000 in
set_option maxHeartbeats 4000000 in
theorem c_X9_row_neg {h : pm_H} {xi : Nat → Int32} {xl : Nat → Int64} {xc : Nat → Option Nat} {XA : Nat → Nat → Int32} {XB : Nat → Nat → Int64} {r : Nat} {n : Int32} (hr : r < 4) (hn : n < 0) : pm_Cv e_X9_row [.ref 1, .int (nI r), .int n] (pmX h xi xl xc XA XB) (.int (-3)) (x_meet h xi xl xc XA XB 5) := by
  refine pm_enter rfl (Nat.le_of_ble_eq_true rfl) ?_
  show pm_V e_X9_row 0 [some (.ref 1), some (.int (nI r)), some (.int n), none] [] (pmX h xi xl xc XA XB) (0, 0) _
  refine r_aload_0 d_X9_row_0 ?_
  refine r_iload_1 d_X9_row_1 ?_
  refine r_V1 d_X9_row_2 (c_X9_rowAt hr) rfl rfl rfl ⟨rfl, rfl⟩ (Nat.le_of_ble_eq_true rfl) ?_
  refine r_astore_3 d_X9_row_5 (Nat.le_of_ble_eq_true rfl) (fun w hw => by cases hw <;> rfl) ?_
  refine r_aload_3 d_X9_row_6 ?_
  refine r_ifnull d_X9_row_7 ?_
  refine r_iload_2 d_X9_row_10 ?_
  refine r_push (v := nI 64) d_X9_row_11 ?_
  refine r_icmp_le d_X9_row_13 (fun c13 => ?_) (fun c13 => ?_)
  · -- taken at 13
    refine r_iload_2 d_X9_row_18 ?_
    refine r_if_ge d_X9_row_19 (fun c19 => ?_) (fun c19 => ?_)
    · -- taken at 19
      exact absurd hn (Int32.not_lt.mpr c19)
    · -- not taken at 19
      refine r_aload_0 d_X9_row_22 ?_
      refine r_push (v := nI 5) d_X9_row_23 ?_
      refine r_V1 d_X9_row_24 (c_X9_found (w := 5) (by decide)) rfl rfl rfl ⟨rfl, rfl⟩ (Nat.le_of_ble_eq_true rfl) ?_
      refine r_ireturn d_X9_row_27 ⟨_, rfl, rfl⟩ ?_
      exact ⟨rfl, rfl⟩
  · -- not taken at 13
    exact absurd (Int32.le_trans (Int32.le_of_lt hn) (by decide)) c13
set_option maxRecDepth 10000 in
set_option maxHeartbeats 4000000 in
theorem c_X9_row {h : pm_H} {xi : Nat → Int32} {xl : Nat → Int64} {xc : Nat → Option Nat} {XA : Nat → Nat → Int32} {XB : Nat → Nat → Int64} {r n : Nat} (hr : r < 4) (hn : n ≤ 64) : pm_Cv e_X9_row [.ref 1, .int (nI r), .int (nI n)] (pmX h xi xl xc XA XB) (.int (nI n)) (pmX h (upd xi (3 + r) (nI n)) xl xc (va_up XA (37 + 2 * r) (pm_fl (nI 0) (XA (37 + 2 * r)) 64)) XB) := by
  refine pm_enter rfl (Nat.le_of_ble_eq_true rfl) ?_
  show pm_V e_X9_row 0 [some (.ref 1), some (.int (nI r)), some (.int (nI n)), none] [] (pmX h xi xl xc XA XB) (0, 0) _
  refine r_aload_0 d_X9_row_0 ?_
  refine r_iload_1 d_X9_row_1 ?_
  refine r_V1 d_X9_row_2 (c_X9_rowAt hr) rfl rfl rfl ⟨rfl, rfl⟩ (Nat.le_of_ble_eq_true rfl) ?_
  refine r_astore_3 d_X9_row_5 (Nat.le_of_ble_eq_true rfl) (fun w hw => by cases hw <;> rfl) ?_
  refine r_aload_3 d_X9_row_6 ?_
  refine r_ifnull d_X9_row_7 ?_
  refine r_iload_2 d_X9_row_10 ?_
  refine r_push (v := nI 64) d_X9_row_11 ?_
  refine r_icmp_le d_X9_row_13 (fun c13 => ?_) (fun c13 => ?_)
  · -- taken at 13
    have c13 : n ≤ 64 := (nI_leI (a := n) (b := 64) (by omega) (by omega)).mp c13
    refine r_iload_2 d_X9_row_18 ?_
    refine r_if_ge d_X9_row_19 (fun c19 => ?_) (fun c19 => ?_)
    · -- taken at 19
      have c19 : 0 ≤ n := (nI_leI (a := 0) (b := n) (by omega) (by omega)).mp c19
      refine r_aload_3 d_X9_row_28 ?_
      refine r_iload_2 d_X9_row_29 ?_
      refine r_V1v d_X9_row_30 (c_X0_begin (by omega) (xr_o hr) (xr_l hr)) (xr_o hr) rfl rfl ⟨rfl, rfl⟩ (Nat.le_of_ble_eq_true rfl) ?_
      rw [xr_up hr, xr_sz hr]
      refine r_iload_2 d_X9_row_33 ?_
      refine r_ireturn d_X9_row_34 ⟨_, rfl, rfl⟩ ?_
      exact ⟨rfl, rfl⟩
    · -- not taken at 19
      have c19 : ¬ 0 ≤ n := fun zz9 => c19 ((nI_leI (a := 0) (b := n) (by omega) (by omega)).mpr zz9)
      exfalso; omega
  · -- not taken at 13
    have c13 : ¬ n ≤ 64 := fun zz9 => c13 ((nI_leI (a := n) (b := 64) (by omega) (by omega)).mpr zz9)
    exfalso; omega
set_option maxRecDepth 10000 in
set_option maxHeartbeats 4000000 in
theorem c_X9_lay_bad {h : pm_H} {xi : Nat → Int32} {xl : Nat → Int64} {xc : Nat → Option Nat} {XA : Nat → Nat → Int32} {XB : Nat → Nat → Int64} {r i v : Int32} (hr : sp_in r 0 3 = false) : pm_Cv e_X9_lay [.ref 1, .int r, .int i, .int v] (pmX h xi xl xc XA XB) (.int (-1)) (pmX h xi xl xc XA XB) := by
  refine pm_enter rfl (Nat.le_of_ble_eq_true rfl) ?_
  show pm_V e_X9_lay 0 [some (.ref 1), some (.int r), some (.int i), some (.int v), none, none] [] (pmX h xi xl xc XA XB) (0, 0) _
  refine r_aload_0 d_X9_lay_0 ?_
  refine r_iload_1 d_X9_lay_1 ?_
  refine r_V1 d_X9_lay_2 (c_X9_rowAt_no hr) rfl rfl rfl ⟨rfl, rfl⟩ (Nat.le_of_ble_eq_true rfl) ?_
  refine r_astoreN_4 d_X9_lay_5 (Nat.le_of_ble_eq_true rfl) (fun w hw => by cases hw <;> rfl) ?_
  refine r_aloadN_4 d_X9_lay_7 ?_
  refine r_ifnonnullN d_X9_lay_9 ?_
  refine r_push d_X9_lay_12 ?_
  refine r_ireturn d_X9_lay_13 ⟨_, rfl, rfl⟩ ?_
  exact ⟨rfl, rfl⟩
set_option maxRecDepth 10000 in
set_option maxHeartbeats 4000000 in
theorem c_X9_lay_none {h : pm_H} {xi : Nat → Int32} {xl : Nat → Int64} {xc : Nat → Option Nat} {XA : Nat → Nat → Int32} {XB : Nat → Nat → Int64} {r : Nat} {i v : Int32} (hr : r < 4) (hz : xi (3 + r) = -1) : pm_Cv e_X9_lay [.ref 1, .int (nI r), .int i, .int v] (pmX h xi xl xc XA XB) (.int (-3)) (x_meet h xi xl xc XA XB 1) := by
  refine pm_enter rfl (Nat.le_of_ble_eq_true rfl) ?_
  show pm_V e_X9_lay 0 [some (.ref 1), some (.int (nI r)), some (.int i), some (.int v), none, none] [] (pmX h xi xl xc XA XB) (0, 0) _
  refine r_aload_0 d_X9_lay_0 ?_
  refine r_iload_1 d_X9_lay_1 ?_
  refine r_V1 d_X9_lay_2 (c_X9_rowAt hr) rfl rfl rfl ⟨rfl, rfl⟩ (Nat.le_of_ble_eq_true rfl) ?_
  refine r_astore_4 d_X9_lay_5 (Nat.le_of_ble_eq_true rfl) (fun w hw => by cases hw <;> rfl) ?_
  refine r_aload_4 d_X9_lay_7 ?_
  refine r_ifnonnull d_X9_lay_9 ?_
  refine r_aload_4 d_X9_lay_14 ?_
  refine r_V0 d_X9_lay_16 (c_X0_isThere (x_row hr hz)) (x_row hr hz) rfl rfl ⟨rfl, rfl⟩ (Nat.le_of_ble_eq_true rfl) ?_
  rw [show decide (0 ≤ (-1 : Int32)) = false from rfl]
  change pm_V _ _ _ (.int (nI 0) :: _) _ _ _
  refine r_if_ne d_X9_lay_19 (fun c19 => absurd (by decide) c19) (fun c19 => ?_)
  clear c19
  refine r_aload_0 d_X9_lay_22 ?_
  refine r_push (v := nI 1) d_X9_lay_23 ?_
  refine r_V1 d_X9_lay_24 (c_X9_found (w := 1) (by decide)) rfl rfl rfl ⟨rfl, rfl⟩ (Nat.le_of_ble_eq_true rfl) ?_
  refine r_ireturn d_X9_lay_27 ⟨_, rfl, rfl⟩ ?_
  exact ⟨rfl, rfl⟩
set_option maxRecDepth 10000 in
set_option maxHeartbeats 4000000 in
theorem c_X9_lay_far {h : pm_H} {xi : Nat → Int32} {xl : Nat → Int64} {xc : Nat → Option Nat} {XA : Nat → Nat → Int32} {XB : Nat → Nat → Int64} {r : Nat} {i v : Int32} (hr : r < 4) {z : Nat} (hz : xi (3 + r) = nI z) (hz64 : z ≤ 64) (hx : sp_in i 0 (nI z - 1) = false) : pm_Cv e_X9_lay [.ref 1, .int (nI r), .int i, .int v] (pmX h xi xl xc XA XB) (.int (-3)) (x_meet h xi xl xc XA XB 2) := by
  refine pm_enter rfl (Nat.le_of_ble_eq_true rfl) ?_
  show pm_V e_X9_lay 0 [some (.ref 1), some (.int (nI r)), some (.int i), some (.int v), none, none] [] (pmX h xi xl xc XA XB) (0, 0) _
  refine r_aload_0 d_X9_lay_0 ?_
  refine r_iload_1 d_X9_lay_1 ?_
  refine r_V1 d_X9_lay_2 (c_X9_rowAt hr) rfl rfl rfl ⟨rfl, rfl⟩ (Nat.le_of_ble_eq_true rfl) ?_
  refine r_astore_4 d_X9_lay_5 (Nat.le_of_ble_eq_true rfl) (fun w hw => by cases hw <;> rfl) ?_
  refine r_aload_4 d_X9_lay_7 ?_
  refine r_ifnonnull d_X9_lay_9 ?_
  refine r_aload_4 d_X9_lay_14 ?_
  refine r_V0 d_X9_lay_16 (c_X0_isThere (x_row hr hz)) (x_row hr hz) rfl rfl ⟨rfl, rfl⟩ (Nat.le_of_ble_eq_true rfl) ?_
  rw [x_th hz64]
  change pm_V _ _ _ (.int (nI 1) :: _) _ _ _
  refine r_if_ne d_X9_lay_19 (fun c19 => ?_) (fun c19 => absurd c19 (by decide))
  clear c19
  refine r_iload_2 d_X9_lay_28 ?_
  refine r_if_lt d_X9_lay_29 (fun c29 => ?_) (fun c29 => ?_)
  · -- taken at 29
    refine r_aload_0 d_X9_lay_41 ?_
    refine r_push (v := nI 2) d_X9_lay_42 ?_
    refine r_V1 d_X9_lay_43 (c_X9_found (w := 2) (by decide)) rfl rfl rfl ⟨rfl, rfl⟩ (Nat.le_of_ble_eq_true rfl) ?_
    refine r_ireturn d_X9_lay_46 ⟨_, rfl, rfl⟩ ?_
    exact ⟨rfl, rfl⟩
  · -- not taken at 29
    refine r_iload_2 d_X9_lay_32 ?_
    refine r_aload_4 d_X9_lay_33 ?_
    refine r_get d_X9_lay_35 s0_size (x_row hr hz) rfl ?_
    refine r_icmp_lt d_X9_lay_38 (fun c38 => ?_) (fun c38 => ?_)
    · -- taken at 38
      have hci := sp_in_ci i z (by omega)
      rw [hx] at hci
      unfold pm_ci at hci
      rw [if_pos ⟨Int32.not_lt.mp c29, c38⟩] at hci
      cases hci
    · -- not taken at 38
      refine r_aload_0 d_X9_lay_41 ?_
      refine r_push (v := nI 2) d_X9_lay_42 ?_
      refine r_V1 d_X9_lay_43 (c_X9_found (w := 2) (by decide)) rfl rfl rfl ⟨rfl, rfl⟩ (Nat.le_of_ble_eq_true rfl) ?_
      refine r_ireturn d_X9_lay_46 ⟨_, rfl, rfl⟩ ?_
      exact ⟨rfl, rfl⟩
set_option maxRecDepth 10000 in
set_option maxHeartbeats 4000000 in
theorem c_X9_lay {h : pm_H} {xi : Nat → Int32} {xl : Nat → Int64} {xc : Nat → Option Nat} {XA : Nat → Nat → Int32} {XB : Nat → Nat → Int64} {r i : Nat} {v : Int32} (hr : r < 4) {z : Nat} (hz : xi (3 + r) = nI z) (hz64 : z ≤ 64) (hx : i < z) : pm_Cv e_X9_lay [.ref 1, .int (nI r), .int (nI i), .int v] (pmX h xi xl xc XA XB) (.int (XA (37 + 2 * r) i + 1000)) (pmX h xi xl xc (va_up XA (37 + 2 * r) (upd (XA (37 + 2 * r)) i v.toInt8.toInt32)) XB) := by
  refine pm_enter rfl (Nat.le_of_ble_eq_true rfl) ?_
  show pm_V e_X9_lay 0 [some (.ref 1), some (.int (nI r)), some (.int (nI i)), some (.int v), none, none] [] (pmX h xi xl xc XA XB) (0, 0) _
  refine r_aload_0 d_X9_lay_0 ?_
  refine r_iload_1 d_X9_lay_1 ?_
  refine r_V1 d_X9_lay_2 (c_X9_rowAt hr) rfl rfl rfl ⟨rfl, rfl⟩ (Nat.le_of_ble_eq_true rfl) ?_
  refine r_astore_4 d_X9_lay_5 (Nat.le_of_ble_eq_true rfl) (fun w hw => by cases hw <;> rfl) ?_
  refine r_aload_4 d_X9_lay_7 ?_
  refine r_ifnonnull d_X9_lay_9 ?_
  refine r_aload_4 d_X9_lay_14 ?_
  refine r_V0 d_X9_lay_16 (c_X0_isThere (x_row hr hz)) (x_row hr hz) rfl rfl ⟨rfl, rfl⟩ (Nat.le_of_ble_eq_true rfl) ?_
  rw [x_th hz64]
  change pm_V _ _ _ (.int (nI 1) :: _) _ _ _
  refine r_if_ne d_X9_lay_19 (fun c19 => ?_) (fun c19 => absurd c19 (by decide))
  clear c19
  refine r_iload_2 d_X9_lay_28 ?_
  refine r_if_lt d_X9_lay_29 (fun c29 => ?_) (fun c29 => ?_)
  · -- taken at 29
    have c29 : i < 0 := (nI_ltI (a := i) (b := 0) (by omega) (by omega)).mp c29
    exfalso; omega
  · -- not taken at 29
    have c29 : ¬ i < 0 := fun zz9 => c29 ((nI_ltI (a := i) (b := 0) (by omega) (by omega)).mpr zz9)
    refine r_iload_2 d_X9_lay_32 ?_
    refine r_aload_4 d_X9_lay_33 ?_
    refine r_get d_X9_lay_35 s0_size (x_row hr hz) rfl ?_
    refine r_icmp_lt d_X9_lay_38 (fun c38 => ?_) (fun c38 => ?_)
    · -- taken at 38
      have c38 : i < z := (nI_ltI (a := i) (b := z) (by omega) (by omega)).mp c38
      refine r_aload_4 d_X9_lay_47 ?_
      refine r_get d_X9_lay_49 s0_bytes (x_row hr hz) rfl ?_
      refine r_iload_2 d_X9_lay_52 ?_
      refine r_bald d_X9_lay_53 (xr_l hr) (pm_ixN (by omega) (by omega)) ?_
      refine r_istore_5 d_X9_lay_54 (Nat.le_of_ble_eq_true rfl) (fun w hw => by cases hw <;> rfl) ?_
      refine r_aload_4 d_X9_lay_56 ?_
      refine r_get d_X9_lay_58 s0_bytes (x_row hr hz) rfl ?_
      refine r_iload_2 d_X9_lay_61 ?_
      refine r_iload_3 d_X9_lay_62 ?_
      refine r_i2b d_X9_lay_63 ?_
      refine r_bast d_X9_lay_64 (xr_l hr) (pm_ixN (by omega) (by omega)) ?_
      rw [xr_up hr, show vp_nar .byte v.toInt8.toInt32 = v.toInt8.toInt32 from (show v.toInt8.toInt32.toInt8.toInt32 = _ by simp)]
      refine r_iload_5 d_X9_lay_65 ?_
      refine r_push (v := nI 1000) d_X9_lay_67 ?_
      refine r_iadd d_X9_lay_70 ?_
      refine r_ireturn d_X9_lay_71 ⟨_, rfl, rfl⟩ ?_
      exact ⟨rfl, rfl⟩
    · -- not taken at 38
      have c38 : ¬ i < z := fun zz9 => c38 ((nI_ltI (a := i) (b := z) (by omega) (by omega)).mpr zz9)
      exfalso; omega
set_option maxRecDepth 10000 in
set_option maxHeartbeats 4000000 in
theorem c_X9_tear_bad {h : pm_H} {xi : Nat → Int32} {xl : Nat → Int64} {xc : Nat → Option Nat} {XA : Nat → Nat → Int32} {XB : Nat → Nat → Int64} {r : Int32} (hr : sp_in r 0 3 = false) : pm_Cv e_X9_tear [.ref 1, .int r] (pmX h xi xl xc XA XB) (.int (-1)) (pmX h xi xl xc XA XB) := by
  refine pm_enter rfl (Nat.le_of_ble_eq_true rfl) ?_
  show pm_V e_X9_tear 0 [some (.ref 1), some (.int r), none] [] (pmX h xi xl xc XA XB) (0, 0) _
  refine r_aload_0 d_X9_tear_0 ?_
  refine r_iload_1 d_X9_tear_1 ?_
  refine r_V1 d_X9_tear_2 (c_X9_rowAt_no hr) rfl rfl rfl ⟨rfl, rfl⟩ (Nat.le_of_ble_eq_true rfl) ?_
  refine r_astoreN_2 d_X9_tear_5 (Nat.le_of_ble_eq_true rfl) (fun w hw => by cases hw <;> rfl) ?_
  refine r_aloadN_2 d_X9_tear_6 ?_
  refine r_ifnonnullN d_X9_tear_7 ?_
  refine r_push d_X9_tear_10 ?_
  refine r_ireturn d_X9_tear_11 ⟨_, rfl, rfl⟩ ?_
  exact ⟨rfl, rfl⟩
set_option maxRecDepth 10000 in
set_option maxHeartbeats 4000000 in
theorem c_X9_tear_none {h : pm_H} {xi : Nat → Int32} {xl : Nat → Int64} {xc : Nat → Option Nat} {XA : Nat → Nat → Int32} {XB : Nat → Nat → Int64} {r : Nat} (hr : r < 4) (hz : xi (3 + r) = -1) : pm_Cv e_X9_tear [.ref 1, .int (nI r)] (pmX h xi xl xc XA XB) (.int (-3)) (x_meet h xi xl xc XA XB 1) := by
  refine pm_enter rfl (Nat.le_of_ble_eq_true rfl) ?_
  show pm_V e_X9_tear 0 [some (.ref 1), some (.int (nI r)), none] [] (pmX h xi xl xc XA XB) (0, 0) _
  refine r_aload_0 d_X9_tear_0 ?_
  refine r_iload_1 d_X9_tear_1 ?_
  refine r_V1 d_X9_tear_2 (c_X9_rowAt hr) rfl rfl rfl ⟨rfl, rfl⟩ (Nat.le_of_ble_eq_true rfl) ?_
  refine r_astore_2 d_X9_tear_5 (Nat.le_of_ble_eq_true rfl) (fun w hw => by cases hw <;> rfl) ?_
  refine r_aload_2 d_X9_tear_6 ?_
  refine r_ifnonnull d_X9_tear_7 ?_
  refine r_aload_2 d_X9_tear_12 ?_
  refine r_V0 d_X9_tear_13 (c_X0_isThere (x_row hr hz)) (x_row hr hz) rfl rfl ⟨rfl, rfl⟩ (Nat.le_of_ble_eq_true rfl) ?_
  rw [show decide (0 ≤ (-1 : Int32)) = false from rfl]
  change pm_V _ _ _ (.int (nI 0) :: _) _ _ _
  refine r_if_ne d_X9_tear_16 (fun c16 => absurd (by decide) c16) (fun c16 => ?_)
  clear c16
  refine r_aload_0 d_X9_tear_19 ?_
  refine r_push (v := nI 1) d_X9_tear_20 ?_
  refine r_V1 d_X9_tear_21 (c_X9_found (w := 1) (by decide)) rfl rfl rfl ⟨rfl, rfl⟩ (Nat.le_of_ble_eq_true rfl) ?_
  refine r_ireturn d_X9_tear_24 ⟨_, rfl, rfl⟩ ?_
  exact ⟨rfl, rfl⟩
set_option maxRecDepth 10000 in
set_option maxHeartbeats 4000000 in
theorem c_X9_tear {h : pm_H} {xi : Nat → Int32} {xl : Nat → Int64} {xc : Nat → Option Nat} {XA : Nat → Nat → Int32} {XB : Nat → Nat → Int64} {r : Nat} (hr : r < 4) {z : Nat} (hz : xi (3 + r) = nI z) (hz64 : z ≤ 64) : pm_Cv e_X9_tear [.ref 1, .int (nI r)] (pmX h xi xl xc XA XB) (.int 1) (pmX h (upd xi (3 + r) (-1)) xl xc XA XB) := by
  refine pm_enter rfl (Nat.le_of_ble_eq_true rfl) ?_
  show pm_V e_X9_tear 0 [some (.ref 1), some (.int (nI r)), none] [] (pmX h xi xl xc XA XB) (0, 0) _
  refine r_aload_0 d_X9_tear_0 ?_
  refine r_iload_1 d_X9_tear_1 ?_
  refine r_V1 d_X9_tear_2 (c_X9_rowAt hr) rfl rfl rfl ⟨rfl, rfl⟩ (Nat.le_of_ble_eq_true rfl) ?_
  refine r_astore_2 d_X9_tear_5 (Nat.le_of_ble_eq_true rfl) (fun w hw => by cases hw <;> rfl) ?_
  refine r_aload_2 d_X9_tear_6 ?_
  refine r_ifnonnull d_X9_tear_7 ?_
  refine r_aload_2 d_X9_tear_12 ?_
  refine r_V0 d_X9_tear_13 (c_X0_isThere (x_row hr hz)) (x_row hr hz) rfl rfl ⟨rfl, rfl⟩ (Nat.le_of_ble_eq_true rfl) ?_
  rw [x_th hz64]
  change pm_V _ _ _ (.int (nI 1) :: _) _ _ _
  refine r_if_ne d_X9_tear_16 (fun c16 => ?_) (fun c16 => absurd c16 (by decide))
  clear c16
  refine r_aload_2 d_X9_tear_25 ?_
  refine r_push d_X9_tear_26 ?_
  refine r_put d_X9_tear_27 s0_size (x_row hr hz) (Nat.le_of_ble_eq_true rfl) ⟨rfl, rfl⟩ ?_
  rw [show [Value.ref (37 + 2 * r), .int (nI z)].set 1 (.int (-1)) = [.ref (37 + 2 * r), .int (-1)] from rfl, xr_sz hr]
  refine r_push (v := nI 1) d_X9_tear_30 ?_
  refine r_ireturn d_X9_tear_31 ⟨_, rfl, rfl⟩ ?_
  exact ⟨rfl, rfl⟩
theorem x_ord {o : Nat} (ho : o ≤ 2) : 0 ≤ nI o ∧ nI o ≤ 2 := ⟨(nI_leI (a := 0) (b := o) (by omega) (by omega)).mpr (Nat.zero_le _), (nI_leI (a := o) (b := 2) (by omega) (by omega)).mpr ho⟩
set_option maxRecDepth 10000 in
set_option maxHeartbeats 4000000 in
theorem c_X9_misfits_bad {h : pm_H} {xi : Nat → Int32} {xl : Nat → Int64} {xc : Nat → Option Nat} {XA : Nat → Nat → Int32} {XB : Nat → Nat → Int64} {r o : Int32} (hr : sp_in r 0 3 = false) : pm_Cv e_X9_misfits [.ref 1, .int r, .int o] (pmX h xi xl xc XA XB) (.int (-1)) (pmX h xi xl xc XA XB) := by
  refine pm_enter rfl (Nat.le_of_ble_eq_true rfl) ?_
  show pm_V e_X9_misfits 0 [some (.ref 1), some (.int r), some (.int o), none] [] (pmX h xi xl xc XA XB) (0, 0) _
  refine r_aload_0 d_X9_misfits_0 ?_
  refine r_iload_1 d_X9_misfits_1 ?_
  refine r_V1 d_X9_misfits_2 (c_X9_rowAt_no hr) rfl rfl rfl ⟨rfl, rfl⟩ (Nat.le_of_ble_eq_true rfl) ?_
  refine r_astoreN_3 d_X9_misfits_5 (Nat.le_of_ble_eq_true rfl) (fun w hw => by cases hw <;> rfl) ?_
  refine r_aloadN_3 d_X9_misfits_6 ?_
  refine r_ifnullN d_X9_misfits_7 ?_
  refine r_push d_X9_misfits_17 ?_
  refine r_ireturn d_X9_misfits_18 ⟨_, rfl, rfl⟩ ?_
  exact ⟨rfl, rfl⟩
set_option maxRecDepth 10000 in
set_option maxHeartbeats 4000000 in
theorem c_X9_misfits_bad1 {h : pm_H} {xi : Nat → Int32} {xl : Nat → Int64} {xc : Nat → Option Nat} {XA : Nat → Nat → Int32} {XB : Nat → Nat → Int64} {r : Nat} {o : Int32} (hr : r < 4) (ho : ¬ (0 ≤ o ∧ o ≤ 2)) : pm_Cv e_X9_misfits [.ref 1, .int (nI r), .int o] (pmX h xi xl xc XA XB) (.int (-1)) (pmX h xi xl xc XA XB) := by
  refine pm_enter rfl (Nat.le_of_ble_eq_true rfl) ?_
  show pm_V e_X9_misfits 0 [some (.ref 1), some (.int (nI r)), some (.int o), none] [] (pmX h xi xl xc XA XB) (0, 0) _
  refine r_aload_0 d_X9_misfits_0 ?_
  refine r_iload_1 d_X9_misfits_1 ?_
  refine r_V1 d_X9_misfits_2 (c_X9_rowAt hr) rfl rfl rfl ⟨rfl, rfl⟩ (Nat.le_of_ble_eq_true rfl) ?_
  refine r_astore_3 d_X9_misfits_5 (Nat.le_of_ble_eq_true rfl) (fun w hw => by cases hw <;> rfl) ?_
  refine r_aload_3 d_X9_misfits_6 ?_
  refine r_ifnull d_X9_misfits_7 ?_
  refine r_iload_2 d_X9_misfits_10 ?_
  refine r_S1 d_X9_misfits_11 c_X9_isOrder ⟨rfl, rfl⟩ (Nat.le_of_ble_eq_true rfl) ?_
  rw [if_neg ho]
  change pm_V _ _ _ (.int (nI 0) :: _) _ _ _
  refine r_if_ne d_X9_misfits_14 (fun c14 => absurd (by decide) c14) (fun c14 => ?_)
  clear c14
  refine r_push d_X9_misfits_17 ?_
  refine r_ireturn d_X9_misfits_18 ⟨_, rfl, rfl⟩ ?_
  exact ⟨rfl, rfl⟩
set_option maxRecDepth 10000 in
set_option maxHeartbeats 4000000 in
theorem c_X9_misfits_none {h : pm_H} {xi : Nat → Int32} {xl : Nat → Int64} {xc : Nat → Option Nat} {XA : Nat → Nat → Int32} {XB : Nat → Nat → Int64} {r : Nat} {o : Int32} (hr : r < 4) (ho : 0 ≤ o ∧ o ≤ 2) (hz : xi (3 + r) = -1) : pm_Cv e_X9_misfits [.ref 1, .int (nI r), .int o] (pmX h xi xl xc XA XB) (.int (-3)) (x_meet h xi xl xc XA XB 1) := by
  refine pm_enter rfl (Nat.le_of_ble_eq_true rfl) ?_
  show pm_V e_X9_misfits 0 [some (.ref 1), some (.int (nI r)), some (.int o), none] [] (pmX h xi xl xc XA XB) (0, 0) _
  refine r_aload_0 d_X9_misfits_0 ?_
  refine r_iload_1 d_X9_misfits_1 ?_
  refine r_V1 d_X9_misfits_2 (c_X9_rowAt hr) rfl rfl rfl ⟨rfl, rfl⟩ (Nat.le_of_ble_eq_true rfl) ?_
  refine r_astore_3 d_X9_misfits_5 (Nat.le_of_ble_eq_true rfl) (fun w hw => by cases hw <;> rfl) ?_
  refine r_aload_3 d_X9_misfits_6 ?_
  refine r_ifnull d_X9_misfits_7 ?_
  refine r_iload_2 d_X9_misfits_10 ?_
  refine r_S1 d_X9_misfits_11 c_X9_isOrder ⟨rfl, rfl⟩ (Nat.le_of_ble_eq_true rfl) ?_
  rw [if_pos ho]
  change pm_V _ _ _ (.int (nI 1) :: _) _ _ _
  refine r_if_ne d_X9_misfits_14 (fun c14 => ?_) (fun c14 => absurd c14 (by decide))
  clear c14
  refine r_aload_3 d_X9_misfits_19 ?_
  refine r_V0 d_X9_misfits_20 (c_X0_isThere (x_row hr hz)) (x_row hr hz) rfl rfl ⟨rfl, rfl⟩ (Nat.le_of_ble_eq_true rfl) ?_
  rw [show decide (0 ≤ (-1 : Int32)) = false from rfl]
  change pm_V _ _ _ (.int (nI 0) :: _) _ _ _
  refine r_if_ne d_X9_misfits_23 (fun c23 => absurd (by decide) c23) (fun c23 => ?_)
  clear c23
  refine r_aload_0 d_X9_misfits_26 ?_
  refine r_push (v := nI 1) d_X9_misfits_27 ?_
  refine r_V1 d_X9_misfits_28 (c_X9_found (w := 1) (by decide)) rfl rfl rfl ⟨rfl, rfl⟩ (Nat.le_of_ble_eq_true rfl) ?_
  refine r_ireturn d_X9_misfits_31 ⟨_, rfl, rfl⟩ ?_
  exact ⟨rfl, rfl⟩
set_option maxRecDepth 10000 in
set_option maxHeartbeats 4000000 in
theorem c_X9_misfits {h : pm_H} {xi : Nat → Int32} {xl : Nat → Int64} {xc : Nat → Option Nat} {XA : Nat → Nat → Int32} {XB : Nat → Nat → Int64} {r o : Nat} (hr : r < 4) {z : Nat} (hz : xi (3 + r) = nI z) (hz64 : z ≤ 64) (ho : o ≤ 2) : pm_Cv e_X9_misfits [.ref 1, .int (nI r), .int (nI o)] (pmX h xi xl xc XA XB) (.int (nI (sp_mc o (XA (37 + 2 * r)) z))) (pmX h xi xl xc XA XB) := by
  refine pm_enter rfl (Nat.le_of_ble_eq_true rfl) ?_
  show pm_V e_X9_misfits 0 [some (.ref 1), some (.int (nI r)), some (.int (nI o)), none] [] (pmX h xi xl xc XA XB) (0, 0) _
  refine r_aload_0 d_X9_misfits_0 ?_
  refine r_iload_1 d_X9_misfits_1 ?_
  refine r_V1 d_X9_misfits_2 (c_X9_rowAt hr) rfl rfl rfl ⟨rfl, rfl⟩ (Nat.le_of_ble_eq_true rfl) ?_
  refine r_astore_3 d_X9_misfits_5 (Nat.le_of_ble_eq_true rfl) (fun w hw => by cases hw <;> rfl) ?_
  refine r_aload_3 d_X9_misfits_6 ?_
  refine r_ifnull d_X9_misfits_7 ?_
  refine r_iload_2 d_X9_misfits_10 ?_
  refine r_S1 d_X9_misfits_11 c_X9_isOrder ⟨rfl, rfl⟩ (Nat.le_of_ble_eq_true rfl) ?_
  rw [if_pos (x_ord ho)]
  change pm_V _ _ _ (.int (nI 1) :: _) _ _ _
  refine r_if_ne d_X9_misfits_14 (fun c14 => ?_) (fun c14 => absurd c14 (by decide))
  clear c14
  refine r_aload_3 d_X9_misfits_19 ?_
  refine r_V0 d_X9_misfits_20 (c_X0_isThere (x_row hr hz)) (x_row hr hz) rfl rfl ⟨rfl, rfl⟩ (Nat.le_of_ble_eq_true rfl) ?_
  rw [x_th hz64]
  change pm_V _ _ _ (.int (nI 1) :: _) _ _ _
  refine r_if_ne d_X9_misfits_23 (fun c23 => ?_) (fun c23 => absurd c23 (by decide))
  clear c23
  refine r_aload_3 d_X9_misfits_32 ?_
  refine r_iload_2 d_X9_misfits_33 ?_
  refine r_V1 d_X9_misfits_34 (c_X0_misfitsIn (x_row hr hz) (xr_l hr) hz64 ho) (x_row hr hz) rfl rfl ⟨rfl, rfl⟩ (Nat.le_of_ble_eq_true rfl) ?_
  refine r_ireturn d_X9_misfits_37 ⟨_, rfl, rfl⟩ ?_
  exact ⟨rfl, rfl⟩
set_option maxRecDepth 10000 in
set_option maxHeartbeats 4000000 in
theorem c_X9_swapped_bad {h : pm_H} {xi : Nat → Int32} {xl : Nat → Int64} {xc : Nat → Option Nat} {XA : Nat → Nat → Int32} {XB : Nat → Nat → Int64} {r o : Int32} (hr : sp_in r 0 3 = false) : pm_Cv e_X9_swapped [.ref 1, .int r, .int o] (pmX h xi xl xc XA XB) (.int (-1)) (pmX h xi xl xc XA XB) := by
  refine pm_enter rfl (Nat.le_of_ble_eq_true rfl) ?_
  show pm_V e_X9_swapped 0 [some (.ref 1), some (.int r), some (.int o), none] [] (pmX h xi xl xc XA XB) (0, 0) _
  refine r_aload_0 d_X9_swapped_0 ?_
  refine r_iload_1 d_X9_swapped_1 ?_
  refine r_V1 d_X9_swapped_2 (c_X9_rowAt_no hr) rfl rfl rfl ⟨rfl, rfl⟩ (Nat.le_of_ble_eq_true rfl) ?_
  refine r_astoreN_3 d_X9_swapped_5 (Nat.le_of_ble_eq_true rfl) (fun w hw => by cases hw <;> rfl) ?_
  refine r_aloadN_3 d_X9_swapped_6 ?_
  refine r_ifnullN d_X9_swapped_7 ?_
  refine r_push d_X9_swapped_17 ?_
  refine r_ireturn d_X9_swapped_18 ⟨_, rfl, rfl⟩ ?_
  exact ⟨rfl, rfl⟩
set_option maxRecDepth 10000 in
set_option maxHeartbeats 4000000 in
theorem c_X9_swapped_bad1 {h : pm_H} {xi : Nat → Int32} {xl : Nat → Int64} {xc : Nat → Option Nat} {XA : Nat → Nat → Int32} {XB : Nat → Nat → Int64} {r : Nat} {o : Int32} (hr : r < 4) (ho : ¬ (0 ≤ o ∧ o ≤ 2)) : pm_Cv e_X9_swapped [.ref 1, .int (nI r), .int o] (pmX h xi xl xc XA XB) (.int (-1)) (pmX h xi xl xc XA XB) := by
  refine pm_enter rfl (Nat.le_of_ble_eq_true rfl) ?_
  show pm_V e_X9_swapped 0 [some (.ref 1), some (.int (nI r)), some (.int o), none] [] (pmX h xi xl xc XA XB) (0, 0) _
  refine r_aload_0 d_X9_swapped_0 ?_
  refine r_iload_1 d_X9_swapped_1 ?_
  refine r_V1 d_X9_swapped_2 (c_X9_rowAt hr) rfl rfl rfl ⟨rfl, rfl⟩ (Nat.le_of_ble_eq_true rfl) ?_
  refine r_astore_3 d_X9_swapped_5 (Nat.le_of_ble_eq_true rfl) (fun w hw => by cases hw <;> rfl) ?_
  refine r_aload_3 d_X9_swapped_6 ?_
  refine r_ifnull d_X9_swapped_7 ?_
  refine r_iload_2 d_X9_swapped_10 ?_
  refine r_S1 d_X9_swapped_11 c_X9_isOrder ⟨rfl, rfl⟩ (Nat.le_of_ble_eq_true rfl) ?_
  rw [if_neg ho]
  change pm_V _ _ _ (.int (nI 0) :: _) _ _ _
  refine r_if_ne d_X9_swapped_14 (fun c14 => absurd (by decide) c14) (fun c14 => ?_)
  clear c14
  refine r_push d_X9_swapped_17 ?_
  refine r_ireturn d_X9_swapped_18 ⟨_, rfl, rfl⟩ ?_
  exact ⟨rfl, rfl⟩
set_option maxRecDepth 10000 in
set_option maxHeartbeats 4000000 in
theorem c_X9_swapped_none {h : pm_H} {xi : Nat → Int32} {xl : Nat → Int64} {xc : Nat → Option Nat} {XA : Nat → Nat → Int32} {XB : Nat → Nat → Int64} {r : Nat} {o : Int32} (hr : r < 4) (ho : 0 ≤ o ∧ o ≤ 2) (hz : xi (3 + r) = -1) : pm_Cv e_X9_swapped [.ref 1, .int (nI r), .int o] (pmX h xi xl xc XA XB) (.int (-3)) (x_meet h xi xl xc XA XB 1) := by
  refine pm_enter rfl (Nat.le_of_ble_eq_true rfl) ?_
  show pm_V e_X9_swapped 0 [some (.ref 1), some (.int (nI r)), some (.int o), none] [] (pmX h xi xl xc XA XB) (0, 0) _
  refine r_aload_0 d_X9_swapped_0 ?_
  refine r_iload_1 d_X9_swapped_1 ?_
  refine r_V1 d_X9_swapped_2 (c_X9_rowAt hr) rfl rfl rfl ⟨rfl, rfl⟩ (Nat.le_of_ble_eq_true rfl) ?_
  refine r_astore_3 d_X9_swapped_5 (Nat.le_of_ble_eq_true rfl) (fun w hw => by cases hw <;> rfl) ?_
  refine r_aload_3 d_X9_swapped_6 ?_
  refine r_ifnull d_X9_swapped_7 ?_
  refine r_iload_2 d_X9_swapped_10 ?_
  refine r_S1 d_X9_swapped_11 c_X9_isOrder ⟨rfl, rfl⟩ (Nat.le_of_ble_eq_true rfl) ?_
  rw [if_pos ho]
  change pm_V _ _ _ (.int (nI 1) :: _) _ _ _
  refine r_if_ne d_X9_swapped_14 (fun c14 => ?_) (fun c14 => absurd c14 (by decide))
  clear c14
  refine r_aload_3 d_X9_swapped_19 ?_
  refine r_V0 d_X9_swapped_20 (c_X0_isThere (x_row hr hz)) (x_row hr hz) rfl rfl ⟨rfl, rfl⟩ (Nat.le_of_ble_eq_true rfl) ?_
  rw [show decide (0 ≤ (-1 : Int32)) = false from rfl]
  change pm_V _ _ _ (.int (nI 0) :: _) _ _ _
  refine r_if_ne d_X9_swapped_23 (fun c23 => absurd (by decide) c23) (fun c23 => ?_)
  clear c23
  refine r_aload_0 d_X9_swapped_26 ?_
  refine r_push (v := nI 1) d_X9_swapped_27 ?_
  refine r_V1 d_X9_swapped_28 (c_X9_found (w := 1) (by decide)) rfl rfl rfl ⟨rfl, rfl⟩ (Nat.le_of_ble_eq_true rfl) ?_
  refine r_ireturn d_X9_swapped_31 ⟨_, rfl, rfl⟩ ?_
  exact ⟨rfl, rfl⟩
set_option maxRecDepth 10000 in
set_option maxHeartbeats 4000000 in
theorem c_X9_swapped {h : pm_H} {xi : Nat → Int32} {xl : Nat → Int64} {xc : Nat → Option Nat} {XA : Nat → Nat → Int32} {XB : Nat → Nat → Int64} {r o : Nat} (hr : r < 4) {z : Nat} (hz : xi (3 + r) = nI z) (hz64 : z ≤ 64) (ho : o ≤ 2) (hb : ∀ j, vp_nar .byte ((XA (37 + 2 * r)) j) = (XA (37 + 2 * r)) j) : pm_Cv e_X9_swapped [.ref 1, .int (nI r), .int (nI o)] (pmX h xi xl xc XA XB) (.int (if sp_mc o (XA (37 + 2 * r)) z = 0 then 0 else if 2 < sp_mc o (XA (37 + 2 * r)) z then -9 else sp_msx (sp_f2 (sp_mX o (XA (37 + 2 * r)) z) z z 0))) (pmX h xi xl xc XA XB) := by
  refine pm_enter rfl (Nat.le_of_ble_eq_true rfl) ?_
  show pm_V e_X9_swapped 0 [some (.ref 1), some (.int (nI r)), some (.int (nI o)), none] [] (pmX h xi xl xc XA XB) (0, 0) _
  refine r_aload_0 d_X9_swapped_0 ?_
  refine r_iload_1 d_X9_swapped_1 ?_
  refine r_V1 d_X9_swapped_2 (c_X9_rowAt hr) rfl rfl rfl ⟨rfl, rfl⟩ (Nat.le_of_ble_eq_true rfl) ?_
  refine r_astore_3 d_X9_swapped_5 (Nat.le_of_ble_eq_true rfl) (fun w hw => by cases hw <;> rfl) ?_
  refine r_aload_3 d_X9_swapped_6 ?_
  refine r_ifnull d_X9_swapped_7 ?_
  refine r_iload_2 d_X9_swapped_10 ?_
  refine r_S1 d_X9_swapped_11 c_X9_isOrder ⟨rfl, rfl⟩ (Nat.le_of_ble_eq_true rfl) ?_
  rw [if_pos (x_ord ho)]
  change pm_V _ _ _ (.int (nI 1) :: _) _ _ _
  refine r_if_ne d_X9_swapped_14 (fun c14 => ?_) (fun c14 => absurd c14 (by decide))
  clear c14
  refine r_aload_3 d_X9_swapped_19 ?_
  refine r_V0 d_X9_swapped_20 (c_X0_isThere (x_row hr hz)) (x_row hr hz) rfl rfl ⟨rfl, rfl⟩ (Nat.le_of_ble_eq_true rfl) ?_
  rw [x_th hz64]
  change pm_V _ _ _ (.int (nI 1) :: _) _ _ _
  refine r_if_ne d_X9_swapped_23 (fun c23 => ?_) (fun c23 => absurd c23 (by decide))
  clear c23
  refine r_aload_3 d_X9_swapped_32 ?_
  refine r_iload_2 d_X9_swapped_33 ?_
  refine r_V1 d_X9_swapped_34 (c_X0_mendingSwap (x_row hr hz) (xr_l hr) hz64 (by omega) ho hb) (x_row hr hz) rfl rfl ⟨rfl, rfl⟩ (Nat.le_of_ble_eq_true rfl) ?_
  refine r_ireturn d_X9_swapped_37 ⟨_, rfl, rfl⟩ ?_
  exact ⟨rfl, rfl⟩
