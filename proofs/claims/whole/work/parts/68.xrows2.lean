set_option maxRecDepth 10000 in
set_option maxHeartbeats 4000000 in
theorem c_X9_follows_bad {h : pm_H} {xi : Nat → Int32} {xl : Nat → Int64} {xc : Nat → Option Nat} {XA : Nat → Nat → Int32} {XB : Nat → Nat → Int64} {r : Int32} (hr : sp_in r 0 3 = false) : pm_Cv e_X9_follows [.ref 1, .int r] (pmX h xi xl xc XA XB) (.int (-1)) (pmX h xi xl xc XA XB) := by
  refine pm_enter rfl (Nat.le_of_ble_eq_true rfl) ?_
  show pm_V e_X9_follows 0 [some (.ref 1), some (.int r), none, none, none, none, none] [] (pmX h xi xl xc XA XB) (0, 0) _
  refine r_aload_0 d_X9_follows_0 ?_
  refine r_iload_1 d_X9_follows_1 ?_
  refine r_V1 d_X9_follows_2 (c_X9_rowAt_no hr) rfl rfl rfl ⟨rfl, rfl⟩ (Nat.le_of_ble_eq_true rfl) ?_
  refine r_astoreN_2 d_X9_follows_5 (Nat.le_of_ble_eq_true rfl) (fun w hw => by cases hw <;> rfl) ?_
  refine r_aloadN_2 d_X9_follows_6 ?_
  refine r_ifnonnullN d_X9_follows_7 ?_
  refine r_push d_X9_follows_10 ?_
  refine r_ireturn d_X9_follows_11 ⟨_, rfl, rfl⟩ ?_
  exact ⟨rfl, rfl⟩
set_option maxRecDepth 10000 in
set_option maxHeartbeats 4000000 in
theorem c_X9_follows_none {h : pm_H} {xi : Nat → Int32} {xl : Nat → Int64} {xc : Nat → Option Nat} {XA : Nat → Nat → Int32} {XB : Nat → Nat → Int64} {r : Nat} (hr : r < 4) (hz : xi (3 + r) = -1) : pm_Cv e_X9_follows [.ref 1, .int (nI r)] (pmX h xi xl xc XA XB) (.int (-3)) (x_meet h xi xl xc XA XB 1) := by
  refine pm_enter rfl (Nat.le_of_ble_eq_true rfl) ?_
  show pm_V e_X9_follows 0 [some (.ref 1), some (.int (nI r)), none, none, none, none, none] [] (pmX h xi xl xc XA XB) (0, 0) _
  refine r_aload_0 d_X9_follows_0 ?_
  refine r_iload_1 d_X9_follows_1 ?_
  refine r_V1 d_X9_follows_2 (c_X9_rowAt hr) rfl rfl rfl ⟨rfl, rfl⟩ (Nat.le_of_ble_eq_true rfl) ?_
  refine r_astore_2 d_X9_follows_5 (Nat.le_of_ble_eq_true rfl) (fun w hw => by cases hw <;> rfl) ?_
  refine r_aload_2 d_X9_follows_6 ?_
  refine r_ifnonnull d_X9_follows_7 ?_
  refine r_aload_2 d_X9_follows_12 ?_
  refine r_V0 d_X9_follows_13 (c_X0_isThere (x_row hr hz)) (x_row hr hz) rfl rfl ⟨rfl, rfl⟩ (Nat.le_of_ble_eq_true rfl) ?_
  rw [show decide (0 ≤ (-1 : Int32)) = false from rfl]
  change pm_V _ _ _ (.int (nI 0) :: _) _ _ _
  refine r_if_ne d_X9_follows_16 (fun c16 => absurd (by decide) c16) (fun c16 => ?_)
  clear c16
  refine r_aload_0 d_X9_follows_19 ?_
  refine r_push (v := nI 1) d_X9_follows_20 ?_
  refine r_V1 d_X9_follows_21 (c_X9_found (w := 1) (by decide)) rfl rfl rfl ⟨rfl, rfl⟩ (Nat.le_of_ble_eq_true rfl) ?_
  refine r_ireturn d_X9_follows_24 ⟨_, rfl, rfl⟩ ?_
  exact ⟨rfl, rfl⟩
set_option maxRecDepth 10000 in
set_option maxHeartbeats 4000000 in
theorem c_X9_follows {h : pm_H} {xi : Nat → Int32} {xl : Nat → Int64} {xc : Nat → Option Nat} {XA : Nat → Nat → Int32} {XB : Nat → Nat → Int64} {r : Nat} (hr : r < 4) {z : Nat} (hz : xi (3 + r) = nI z) (hz64 : z ≤ 64) : pm_Cv e_X9_follows [.ref 1, .int (nI r)] (pmX h xi xl xc XA XB) (.int (nI (sp_fo (sp_mc 0 (XA (37 + 2 * r)) z) (sp_mc 1 (XA (37 + 2 * r)) z) (sp_mc 2 (XA (37 + 2 * r)) z)).1)) (pmX h xi (vp_updL xl 0 (lN (sp_fo (sp_mc 0 (XA (37 + 2 * r)) z) (sp_mc 1 (XA (37 + 2 * r)) z) (sp_mc 2 (XA (37 + 2 * r)) z)).2)) xc XA XB) := by
  have l0 := sp_mc_le 0 (XA (37 + 2 * r)) z
  have l1 := sp_mc_le 1 (XA (37 + 2 * r)) z
  have l2 := sp_mc_le 2 (XA (37 + 2 * r)) z
  have m0 := c_X0_misfitsIn (x_row (h := h) (xi := xi) (xl := xl) (xc := xc) (XA := XA) (XB := XB) hr hz) (xr_l hr) hz64 (ord := 0) (by decide)
  have m1 := c_X0_misfitsIn (x_row (h := h) (xi := xi) (xl := xl) (xc := xc) (XA := XA) (XB := XB) hr hz) (xr_l hr) hz64 (ord := 1) (by decide)
  have m2 := c_X0_misfitsIn (x_row (h := h) (xi := xi) (xl := xl) (xc := xc) (XA := XA) (XB := XB) hr hz) (xr_l hr) hz64 (ord := 2) (by decide)
  generalize (sp_mc 0 (XA (37 + 2 * r)) z) = n0 at l0 m0 ⊢
  generalize (sp_mc 1 (XA (37 + 2 * r)) z) = n1 at l1 m1 ⊢
  generalize (sp_mc 2 (XA (37 + 2 * r)) z) = n2 at l2 m2 ⊢
  refine pm_enter rfl (Nat.le_of_ble_eq_true rfl) ?_
  show pm_V e_X9_follows 0 [some (.ref 1), some (.int (nI r)), none, none, none, none, none] [] (pmX h xi xl xc XA XB) (0, 0) _
  refine r_aload_0 d_X9_follows_0 ?_
  refine r_iload_1 d_X9_follows_1 ?_
  refine r_V1 d_X9_follows_2 (c_X9_rowAt hr) rfl rfl rfl ⟨rfl, rfl⟩ (Nat.le_of_ble_eq_true rfl) ?_
  refine r_astore_2 d_X9_follows_5 (Nat.le_of_ble_eq_true rfl) (fun w hw => by cases hw <;> rfl) ?_
  refine r_aload_2 d_X9_follows_6 ?_
  refine r_ifnonnull d_X9_follows_7 ?_
  refine r_aload_2 d_X9_follows_12 ?_
  refine r_V0 d_X9_follows_13 (c_X0_isThere (x_row hr hz)) (x_row hr hz) rfl rfl ⟨rfl, rfl⟩ (Nat.le_of_ble_eq_true rfl) ?_
  rw [x_th hz64]
  change pm_V _ _ _ (.int (nI 1) :: _) _ _ _
  refine r_if_ne d_X9_follows_16 (fun c16 => ?_) (fun c16 => absurd c16 (by decide))
  clear c16
  refine r_push (v := nI 0) d_X9_follows_25 ?_
  refine r_istore_3 d_X9_follows_26 (Nat.le_of_ble_eq_true rfl) (fun w hw => by cases hw <;> rfl) ?_
  refine r_aload_2 d_X9_follows_27 ?_
  refine r_push (v := nI 0) d_X9_follows_28 ?_
  refine r_V1 d_X9_follows_29 m0 (x_row hr hz) rfl rfl ⟨rfl, rfl⟩ (Nat.le_of_ble_eq_true rfl) ?_
  refine r_istore_4 d_X9_follows_32 (Nat.le_of_ble_eq_true rfl) (fun w hw => by cases hw <;> rfl) ?_
  refine r_push (v := nI 1) d_X9_follows_34 ?_
  refine r_istore_5 d_X9_follows_35 (Nat.le_of_ble_eq_true rfl) (fun w hw => by cases hw <;> rfl) ?_
  refine r_iload_5 d_X9_follows_37 ?_
  refine r_push (v := nI 2) d_X9_follows_39 ?_
  refine r_icmp_gt d_X9_follows_40 (fun c40 => absurd c40 (by decide)) (fun c40 => ?_)
  clear c40
  refine r_aload_2 d_X9_follows_43 ?_
  refine r_iload_5 d_X9_follows_44 ?_
  refine r_V1 d_X9_follows_46 m1 (x_row hr hz) rfl rfl ⟨rfl, rfl⟩ (Nat.le_of_ble_eq_true rfl) ?_
  refine r_istore_6 d_X9_follows_49 (Nat.le_of_ble_eq_true rfl) (fun w hw => by cases hw <;> rfl) ?_
  refine r_iload_6 d_X9_follows_51 ?_
  refine r_iload_4 d_X9_follows_53 ?_
  refine r_icmp_ge d_X9_follows_55 (fun c55 => ?_) (fun c55 => ?_)
  · -- taken at 55
    have c55 : n0 ≤ n1 := (nI_leI (a := n0) (b := n1) (by omega) (by omega)).mp c55
    refine r_iinc_5 d_X9_follows_65 (Nat.le_of_ble_eq_true rfl) (fun w hw => by cases hw <;> rfl) ?_
    rw [show nI 1 + 1 = nI 2 from rfl]
    refine r_goto d_X9_follows_68 ?_
    refine r_iload_5 d_X9_follows_37 ?_
    refine r_push (v := nI 2) d_X9_follows_39 ?_
    refine r_icmp_gt d_X9_follows_40 (fun c40 => absurd c40 (by decide)) (fun c40 => ?_)
    clear c40
    refine r_aload_2 d_X9_follows_43 ?_
    refine r_iload_5 d_X9_follows_44 ?_
    refine r_V1 d_X9_follows_46 m2 (x_row hr hz) rfl rfl ⟨rfl, rfl⟩ (Nat.le_of_ble_eq_true rfl) ?_
    refine r_istore_6 d_X9_follows_49 (Nat.le_of_ble_eq_true rfl) (fun w hw => by cases hw <;> rfl) ?_
    refine r_iload_6 d_X9_follows_51 ?_
    refine r_iload_4 d_X9_follows_53 ?_
    refine r_icmp_ge d_X9_follows_55 (fun c55 => ?_) (fun c55 => ?_)
    · -- taken at 55
      have c55 : n0 ≤ n2 := (nI_leI (a := n0) (b := n2) (by omega) (by omega)).mp c55
      refine r_iinc_5 d_X9_follows_65 (Nat.le_of_ble_eq_true rfl) (fun w hw => by cases hw <;> rfl) ?_
      rw [show nI 2 + 1 = nI 3 from rfl]
      refine r_goto d_X9_follows_68 ?_
      refine r_iload_5 d_X9_follows_37 ?_
      refine r_push (v := nI 2) d_X9_follows_39 ?_
      refine r_icmp_gt d_X9_follows_40 (fun c40 => ?_) (fun c40 => absurd (by decide) c40)
      clear c40
      refine r_aload_0 d_X9_follows_71 ?_
      refine r_iload_4 d_X9_follows_72 ?_
      refine r_i2l d_X9_follows_74 ?_
      rw [nI_l (n := n0) (by omega)]
      refine r_put d_X9_follows_75 s9_lastAsked rfl (Nat.le_of_ble_eq_true rfl) ⟨rfl, rfl⟩ ?_
      rw [pmX_asked]
      refine r_iload_3 d_X9_follows_78 ?_
      refine r_ireturn d_X9_follows_79 ⟨_, rfl, rfl⟩ ?_
      have efo : sp_fo n0 n1 n2 = (0, n0) := by unfold sp_fo; repeat (first | rw [if_pos (by omega)] | rw [if_neg (by omega)])
      rw [efo]
      exact ⟨rfl, rfl⟩
    · -- not taken at 55
      have c55 : ¬ n0 ≤ n2 := fun zz9 => c55 ((nI_leI (a := n0) (b := n2) (by omega) (by omega)).mpr zz9)
      refine r_iload_6 d_X9_follows_58 ?_
      refine r_istore_4 d_X9_follows_60 (Nat.le_of_ble_eq_true rfl) (fun w hw => by cases hw <;> rfl) ?_
      refine r_iload_5 d_X9_follows_62 ?_
      refine r_istore_3 d_X9_follows_64 (Nat.le_of_ble_eq_true rfl) (fun w hw => by cases hw <;> rfl) ?_
      refine r_iinc_5 d_X9_follows_65 (Nat.le_of_ble_eq_true rfl) (fun w hw => by cases hw <;> rfl) ?_
      rw [show nI 2 + 1 = nI 3 from rfl]
      refine r_goto d_X9_follows_68 ?_
      refine r_iload_5 d_X9_follows_37 ?_
      refine r_push (v := nI 2) d_X9_follows_39 ?_
      refine r_icmp_gt d_X9_follows_40 (fun c40 => ?_) (fun c40 => absurd (by decide) c40)
      clear c40
      refine r_aload_0 d_X9_follows_71 ?_
      refine r_iload_4 d_X9_follows_72 ?_
      refine r_i2l d_X9_follows_74 ?_
      rw [nI_l (n := n2) (by omega)]
      refine r_put d_X9_follows_75 s9_lastAsked rfl (Nat.le_of_ble_eq_true rfl) ⟨rfl, rfl⟩ ?_
      rw [pmX_asked]
      refine r_iload_3 d_X9_follows_78 ?_
      refine r_ireturn d_X9_follows_79 ⟨_, rfl, rfl⟩ ?_
      have efo : sp_fo n0 n1 n2 = (2, n2) := by unfold sp_fo; repeat (first | rw [if_pos (by omega)] | rw [if_neg (by omega)])
      rw [efo]
      exact ⟨rfl, rfl⟩
  · -- not taken at 55
    have c55 : ¬ n0 ≤ n1 := fun zz9 => c55 ((nI_leI (a := n0) (b := n1) (by omega) (by omega)).mpr zz9)
    refine r_iload_6 d_X9_follows_58 ?_
    refine r_istore_4 d_X9_follows_60 (Nat.le_of_ble_eq_true rfl) (fun w hw => by cases hw <;> rfl) ?_
    refine r_iload_5 d_X9_follows_62 ?_
    refine r_istore_3 d_X9_follows_64 (Nat.le_of_ble_eq_true rfl) (fun w hw => by cases hw <;> rfl) ?_
    refine r_iinc_5 d_X9_follows_65 (Nat.le_of_ble_eq_true rfl) (fun w hw => by cases hw <;> rfl) ?_
    rw [show nI 1 + 1 = nI 2 from rfl]
    refine r_goto d_X9_follows_68 ?_
    refine r_iload_5 d_X9_follows_37 ?_
    refine r_push (v := nI 2) d_X9_follows_39 ?_
    refine r_icmp_gt d_X9_follows_40 (fun c40 => absurd c40 (by decide)) (fun c40 => ?_)
    clear c40
    refine r_aload_2 d_X9_follows_43 ?_
    refine r_iload_5 d_X9_follows_44 ?_
    refine r_V1 d_X9_follows_46 m2 (x_row hr hz) rfl rfl ⟨rfl, rfl⟩ (Nat.le_of_ble_eq_true rfl) ?_
    refine r_istore_6 d_X9_follows_49 (Nat.le_of_ble_eq_true rfl) (fun w hw => by cases hw <;> rfl) ?_
    refine r_iload_6 d_X9_follows_51 ?_
    refine r_iload_4 d_X9_follows_53 ?_
    refine r_icmp_ge d_X9_follows_55 (fun c55 => ?_) (fun c55 => ?_)
    · -- taken at 55
      have c55 : n1 ≤ n2 := (nI_leI (a := n1) (b := n2) (by omega) (by omega)).mp c55
      refine r_iinc_5 d_X9_follows_65 (Nat.le_of_ble_eq_true rfl) (fun w hw => by cases hw <;> rfl) ?_
      rw [show nI 2 + 1 = nI 3 from rfl]
      refine r_goto d_X9_follows_68 ?_
      refine r_iload_5 d_X9_follows_37 ?_
      refine r_push (v := nI 2) d_X9_follows_39 ?_
      refine r_icmp_gt d_X9_follows_40 (fun c40 => ?_) (fun c40 => absurd (by decide) c40)
      clear c40
      refine r_aload_0 d_X9_follows_71 ?_
      refine r_iload_4 d_X9_follows_72 ?_
      refine r_i2l d_X9_follows_74 ?_
      rw [nI_l (n := n1) (by omega)]
      refine r_put d_X9_follows_75 s9_lastAsked rfl (Nat.le_of_ble_eq_true rfl) ⟨rfl, rfl⟩ ?_
      rw [pmX_asked]
      refine r_iload_3 d_X9_follows_78 ?_
      refine r_ireturn d_X9_follows_79 ⟨_, rfl, rfl⟩ ?_
      have efo : sp_fo n0 n1 n2 = (1, n1) := by unfold sp_fo; repeat (first | rw [if_pos (by omega)] | rw [if_neg (by omega)])
      rw [efo]
      exact ⟨rfl, rfl⟩
    · -- not taken at 55
      have c55 : ¬ n1 ≤ n2 := fun zz9 => c55 ((nI_leI (a := n1) (b := n2) (by omega) (by omega)).mpr zz9)
      refine r_iload_6 d_X9_follows_58 ?_
      refine r_istore_4 d_X9_follows_60 (Nat.le_of_ble_eq_true rfl) (fun w hw => by cases hw <;> rfl) ?_
      refine r_iload_5 d_X9_follows_62 ?_
      refine r_istore_3 d_X9_follows_64 (Nat.le_of_ble_eq_true rfl) (fun w hw => by cases hw <;> rfl) ?_
      refine r_iinc_5 d_X9_follows_65 (Nat.le_of_ble_eq_true rfl) (fun w hw => by cases hw <;> rfl) ?_
      rw [show nI 2 + 1 = nI 3 from rfl]
      refine r_goto d_X9_follows_68 ?_
      refine r_iload_5 d_X9_follows_37 ?_
      refine r_push (v := nI 2) d_X9_follows_39 ?_
      refine r_icmp_gt d_X9_follows_40 (fun c40 => ?_) (fun c40 => absurd (by decide) c40)
      clear c40
      refine r_aload_0 d_X9_follows_71 ?_
      refine r_iload_4 d_X9_follows_72 ?_
      refine r_i2l d_X9_follows_74 ?_
      rw [nI_l (n := n2) (by omega)]
      refine r_put d_X9_follows_75 s9_lastAsked rfl (Nat.le_of_ble_eq_true rfl) ⟨rfl, rfl⟩ ?_
      rw [pmX_asked]
      refine r_iload_3 d_X9_follows_78 ?_
      refine r_ireturn d_X9_follows_79 ⟨_, rfl, rfl⟩ ?_
      have efo : sp_fo n0 n1 n2 = (2, n2) := by unfold sp_fo; repeat (first | rw [if_pos (by omega)] | rw [if_neg (by omega)])
      rw [efo]
      exact ⟨rfl, rfl⟩
set_option maxRecDepth 10000 in
set_option maxHeartbeats 4000000 in
theorem c_X9_lacks_bad {h : pm_H} {xi : Nat → Int32} {xl : Nat → Int64} {xc : Nat → Option Nat} {XA : Nat → Nat → Int32} {XB : Nat → Nat → Int64} {r : Int32} (hr : sp_in r 0 3 = false) : pm_Cv e_X9_lacks [.ref 1, .int r] (pmX h xi xl xc XA XB) (.int (-1)) (pmX h xi xl xc XA XB) := by
  refine pm_enter rfl (Nat.le_of_ble_eq_true rfl) ?_
  show pm_V e_X9_lacks 0 [some (.ref 1), some (.int r), none] [] (pmX h xi xl xc XA XB) (0, 0) _
  refine r_aload_0 d_X9_lacks_0 ?_
  refine r_iload_1 d_X9_lacks_1 ?_
  refine r_V1 d_X9_lacks_2 (c_X9_rowAt_no hr) rfl rfl rfl ⟨rfl, rfl⟩ (Nat.le_of_ble_eq_true rfl) ?_
  refine r_astoreN_2 d_X9_lacks_5 (Nat.le_of_ble_eq_true rfl) (fun w hw => by cases hw <;> rfl) ?_
  refine r_aloadN_2 d_X9_lacks_6 ?_
  refine r_ifnonnullN d_X9_lacks_7 ?_
  refine r_push d_X9_lacks_10 ?_
  refine r_ireturn d_X9_lacks_11 ⟨_, rfl, rfl⟩ ?_
  exact ⟨rfl, rfl⟩
set_option maxRecDepth 10000 in
set_option maxHeartbeats 4000000 in
theorem c_X9_lacks_none {h : pm_H} {xi : Nat → Int32} {xl : Nat → Int64} {xc : Nat → Option Nat} {XA : Nat → Nat → Int32} {XB : Nat → Nat → Int64} {r : Nat} (hr : r < 4) (hz : xi (3 + r) = -1) : pm_Cv e_X9_lacks [.ref 1, .int (nI r)] (pmX h xi xl xc XA XB) (.int (-3)) (x_meet h xi xl xc XA XB 1) := by
  refine pm_enter rfl (Nat.le_of_ble_eq_true rfl) ?_
  show pm_V e_X9_lacks 0 [some (.ref 1), some (.int (nI r)), none] [] (pmX h xi xl xc XA XB) (0, 0) _
  refine r_aload_0 d_X9_lacks_0 ?_
  refine r_iload_1 d_X9_lacks_1 ?_
  refine r_V1 d_X9_lacks_2 (c_X9_rowAt hr) rfl rfl rfl ⟨rfl, rfl⟩ (Nat.le_of_ble_eq_true rfl) ?_
  refine r_astore_2 d_X9_lacks_5 (Nat.le_of_ble_eq_true rfl) (fun w hw => by cases hw <;> rfl) ?_
  refine r_aload_2 d_X9_lacks_6 ?_
  refine r_ifnonnull d_X9_lacks_7 ?_
  refine r_aload_2 d_X9_lacks_12 ?_
  refine r_V0 d_X9_lacks_13 (c_X0_isThere (x_row hr hz)) (x_row hr hz) rfl rfl ⟨rfl, rfl⟩ (Nat.le_of_ble_eq_true rfl) ?_
  rw [show decide (0 ≤ (-1 : Int32)) = false from rfl]
  change pm_V _ _ _ (.int (nI 0) :: _) _ _ _
  refine r_if_ne d_X9_lacks_16 (fun c16 => absurd (by decide) c16) (fun c16 => ?_)
  clear c16
  refine r_aload_0 d_X9_lacks_19 ?_
  refine r_push (v := nI 1) d_X9_lacks_20 ?_
  refine r_V1 d_X9_lacks_21 (c_X9_found (w := 1) (by decide)) rfl rfl rfl ⟨rfl, rfl⟩ (Nat.le_of_ble_eq_true rfl) ?_
  refine r_ireturn d_X9_lacks_24 ⟨_, rfl, rfl⟩ ?_
  exact ⟨rfl, rfl⟩
set_option maxRecDepth 10000 in
set_option maxHeartbeats 4000000 in
theorem c_X9_lacks {h : pm_H} {xi : Nat → Int32} {xl : Nat → Int64} {xc : Nat → Option Nat} {XA : Nat → Nat → Int32} {XB : Nat → Nat → Int64} {r : Nat} (hr : r < 4) {z : Nat} (hz : xi (3 + r) = nI z) (hz64 : z ≤ 64) : pm_Cv e_X9_lacks [.ref 1, .int (nI r)] (pmX h xi xl xc XA XB) (.int (sp_bc (sp_nt (XA (37 + 2 * r)) z ^^^ (-1)))) (pmX h xi (vp_updL xl 0 (sp_nt (XA (37 + 2 * r)) z ^^^ (-1))) xc XA XB) := by
  refine pm_enter rfl (Nat.le_of_ble_eq_true rfl) ?_
  show pm_V e_X9_lacks 0 [some (.ref 1), some (.int (nI r)), none] [] (pmX h xi xl xc XA XB) (0, 0) _
  refine r_aload_0 d_X9_lacks_0 ?_
  refine r_iload_1 d_X9_lacks_1 ?_
  refine r_V1 d_X9_lacks_2 (c_X9_rowAt hr) rfl rfl rfl ⟨rfl, rfl⟩ (Nat.le_of_ble_eq_true rfl) ?_
  refine r_astore_2 d_X9_lacks_5 (Nat.le_of_ble_eq_true rfl) (fun w hw => by cases hw <;> rfl) ?_
  refine r_aload_2 d_X9_lacks_6 ?_
  refine r_ifnonnull d_X9_lacks_7 ?_
  refine r_aload_2 d_X9_lacks_12 ?_
  refine r_V0 d_X9_lacks_13 (c_X0_isThere (x_row hr hz)) (x_row hr hz) rfl rfl ⟨rfl, rfl⟩ (Nat.le_of_ble_eq_true rfl) ?_
  rw [x_th hz64]
  change pm_V _ _ _ (.int (nI 1) :: _) _ _ _
  refine r_if_ne d_X9_lacks_16 (fun c16 => ?_) (fun c16 => absurd c16 (by decide))
  clear c16
  refine r_aload_0 d_X9_lacks_25 ?_
  refine r_aload_2 d_X9_lacks_26 ?_
  refine r_V0 d_X9_lacks_27 (c_X0_numbersThere (x_row hr hz) (xr_l hr) hz64) (x_row hr hz) rfl rfl ⟨rfl, rfl⟩ (Nat.le_of_ble_eq_true rfl) ?_
  refine r_pushl d_X9_lacks_30 ?_
  refine r_lxor d_X9_lacks_33 ?_
  refine r_put d_X9_lacks_34 s9_lastAsked rfl (Nat.le_of_ble_eq_true rfl) ⟨rfl, rfl⟩ ?_
  rw [pmX_asked]
  refine r_aload_0 d_X9_lacks_37 ?_
  refine r_get d_X9_lacks_38 s9_lastAsked rfl rfl ?_
  refine r_S1 d_X9_lacks_41 c_J13_bitCount_95d88 ⟨rfl, rfl⟩ (Nat.le_of_ble_eq_true rfl) ?_
  refine r_ireturn d_X9_lacks_44 ⟨_, rfl, rfl⟩ ?_
  exact ⟨rfl, rfl⟩
set_option maxRecDepth 10000 in
set_option maxHeartbeats 4000000 in
theorem c_X9_copy_bad1a {h : pm_H} {xi : Nat → Int32} {xl : Nat → Int64} {xc : Nat → Option Nat} {XA : Nat → Nat → Int32} {XB : Nat → Nat → Int64} {r i t j n : Int32} (hr : sp_in r 0 3 = false) (ht : sp_in t 0 3 = false) : pm_Cv e_X9_copy [.ref 1, .int r, .int i, .int t, .int j, .int n] (pmX h xi xl xc XA XB) (.int (-1)) (pmX h xi xl xc XA XB) := by
  refine pm_enter rfl (Nat.le_of_ble_eq_true rfl) ?_
  show pm_V e_X9_copy 0 [some (.ref 1), some (.int r), some (.int i), some (.int t), some (.int j), some (.int n), none, none] [] (pmX h xi xl xc XA XB) (0, 0) _
  refine r_aload_0 d_X9_copy_0 ?_
  refine r_iload_1 d_X9_copy_1 ?_
  refine r_V1 d_X9_copy_2 (c_X9_rowAt_no hr) rfl rfl rfl ⟨rfl, rfl⟩ (Nat.le_of_ble_eq_true rfl) ?_
  refine r_astoreN_6 d_X9_copy_5 (Nat.le_of_ble_eq_true rfl) (fun w hw => by cases hw <;> rfl) ?_
  refine r_aload_0 d_X9_copy_7 ?_
  refine r_iload_3 d_X9_copy_8 ?_
  refine r_V1 d_X9_copy_9 (c_X9_rowAt_no ht) rfl rfl rfl ⟨rfl, rfl⟩ (Nat.le_of_ble_eq_true rfl) ?_
  refine r_astoreN_7 d_X9_copy_12 (Nat.le_of_ble_eq_true rfl) (fun w hw => by cases hw <;> rfl) ?_
  refine r_aloadN_6 d_X9_copy_14 ?_
  refine r_ifnullN d_X9_copy_16 ?_
  refine r_push d_X9_copy_24 ?_
  refine r_ireturn d_X9_copy_25 ⟨_, rfl, rfl⟩ ?_
  exact ⟨rfl, rfl⟩
set_option maxRecDepth 10000 in
set_option maxHeartbeats 4000000 in
theorem c_X9_copy_bad1b {h : pm_H} {xi : Nat → Int32} {xl : Nat → Int64} {xc : Nat → Option Nat} {XA : Nat → Nat → Int32} {XB : Nat → Nat → Int64} {r i j n : Int32} {t : Nat} (hr : sp_in r 0 3 = false) (ht : t < 4) : pm_Cv e_X9_copy [.ref 1, .int r, .int i, .int (nI t), .int j, .int n] (pmX h xi xl xc XA XB) (.int (-1)) (pmX h xi xl xc XA XB) := by
  refine pm_enter rfl (Nat.le_of_ble_eq_true rfl) ?_
  show pm_V e_X9_copy 0 [some (.ref 1), some (.int r), some (.int i), some (.int (nI t)), some (.int j), some (.int n), none, none] [] (pmX h xi xl xc XA XB) (0, 0) _
  refine r_aload_0 d_X9_copy_0 ?_
  refine r_iload_1 d_X9_copy_1 ?_
  refine r_V1 d_X9_copy_2 (c_X9_rowAt_no hr) rfl rfl rfl ⟨rfl, rfl⟩ (Nat.le_of_ble_eq_true rfl) ?_
  refine r_astoreN_6 d_X9_copy_5 (Nat.le_of_ble_eq_true rfl) (fun w hw => by cases hw <;> rfl) ?_
  refine r_aload_0 d_X9_copy_7 ?_
  refine r_iload_3 d_X9_copy_8 ?_
  refine r_V1 d_X9_copy_9 (c_X9_rowAt ht) rfl rfl rfl ⟨rfl, rfl⟩ (Nat.le_of_ble_eq_true rfl) ?_
  refine r_astore_7 d_X9_copy_12 (Nat.le_of_ble_eq_true rfl) (fun w hw => by cases hw <;> rfl) ?_
  refine r_aloadN_6 d_X9_copy_14 ?_
  refine r_ifnullN d_X9_copy_16 ?_
  refine r_push d_X9_copy_24 ?_
  refine r_ireturn d_X9_copy_25 ⟨_, rfl, rfl⟩ ?_
  exact ⟨rfl, rfl⟩
set_option maxRecDepth 10000 in
set_option maxHeartbeats 4000000 in
theorem c_X9_copy_bad2 {h : pm_H} {xi : Nat → Int32} {xl : Nat → Int64} {xc : Nat → Option Nat} {XA : Nat → Nat → Int32} {XB : Nat → Nat → Int64} {i t j n : Int32} {r : Nat} (hr : r < 4) (ht : sp_in t 0 3 = false) : pm_Cv e_X9_copy [.ref 1, .int (nI r), .int i, .int t, .int j, .int n] (pmX h xi xl xc XA XB) (.int (-1)) (pmX h xi xl xc XA XB) := by
  refine pm_enter rfl (Nat.le_of_ble_eq_true rfl) ?_
  show pm_V e_X9_copy 0 [some (.ref 1), some (.int (nI r)), some (.int i), some (.int t), some (.int j), some (.int n), none, none] [] (pmX h xi xl xc XA XB) (0, 0) _
  refine r_aload_0 d_X9_copy_0 ?_
  refine r_iload_1 d_X9_copy_1 ?_
  refine r_V1 d_X9_copy_2 (c_X9_rowAt hr) rfl rfl rfl ⟨rfl, rfl⟩ (Nat.le_of_ble_eq_true rfl) ?_
  refine r_astore_6 d_X9_copy_5 (Nat.le_of_ble_eq_true rfl) (fun w hw => by cases hw <;> rfl) ?_
  refine r_aload_0 d_X9_copy_7 ?_
  refine r_iload_3 d_X9_copy_8 ?_
  refine r_V1 d_X9_copy_9 (c_X9_rowAt_no ht) rfl rfl rfl ⟨rfl, rfl⟩ (Nat.le_of_ble_eq_true rfl) ?_
  refine r_astoreN_7 d_X9_copy_12 (Nat.le_of_ble_eq_true rfl) (fun w hw => by cases hw <;> rfl) ?_
  refine r_aload_6 d_X9_copy_14 ?_
  refine r_ifnull d_X9_copy_16 ?_
  refine r_aloadN_7 d_X9_copy_19 ?_
  refine r_ifnonnullN d_X9_copy_21 ?_
  refine r_push d_X9_copy_24 ?_
  refine r_ireturn d_X9_copy_25 ⟨_, rfl, rfl⟩ ?_
  exact ⟨rfl, rfl⟩
set_option maxRecDepth 10000 in
set_option maxHeartbeats 4000000 in
theorem c_X9_copy_neg {h : pm_H} {xi : Nat → Int32} {xl : Nat → Int64} {xc : Nat → Option Nat} {XA : Nat → Nat → Int32} {XB : Nat → Nat → Int64} {i j n : Int32} {r t : Nat} (hr : r < 4) (ht : t < 4) (hn : n < 0) : pm_Cv e_X9_copy [.ref 1, .int (nI r), .int i, .int (nI t), .int j, .int n] (pmX h xi xl xc XA XB) (.int (-3)) (x_meet h xi xl xc XA XB 5) := by
  refine pm_enter rfl (Nat.le_of_ble_eq_true rfl) ?_
  show pm_V e_X9_copy 0 [some (.ref 1), some (.int (nI r)), some (.int i), some (.int (nI t)), some (.int j), some (.int n), none, none] [] (pmX h xi xl xc XA XB) (0, 0) _
  refine r_aload_0 d_X9_copy_0 ?_
  refine r_iload_1 d_X9_copy_1 ?_
  refine r_V1 d_X9_copy_2 (c_X9_rowAt hr) rfl rfl rfl ⟨rfl, rfl⟩ (Nat.le_of_ble_eq_true rfl) ?_
  refine r_astore_6 d_X9_copy_5 (Nat.le_of_ble_eq_true rfl) (fun w hw => by cases hw <;> rfl) ?_
  refine r_aload_0 d_X9_copy_7 ?_
  refine r_iload_3 d_X9_copy_8 ?_
  refine r_V1 d_X9_copy_9 (c_X9_rowAt ht) rfl rfl rfl ⟨rfl, rfl⟩ (Nat.le_of_ble_eq_true rfl) ?_
  refine r_astore_7 d_X9_copy_12 (Nat.le_of_ble_eq_true rfl) (fun w hw => by cases hw <;> rfl) ?_
  refine r_aload_6 d_X9_copy_14 ?_
  refine r_ifnull d_X9_copy_16 ?_
  refine r_aload_7 d_X9_copy_19 ?_
  refine r_ifnonnull d_X9_copy_21 ?_
  refine r_iload_5 d_X9_copy_26 ?_
  refine r_if_ge d_X9_copy_28 (fun c28 => ?_) (fun c28 => ?_)
  · -- taken at 28
    exact absurd hn (Int32.not_lt.mpr c28)
  · -- not taken at 28
    refine r_aload_0 d_X9_copy_31 ?_
    refine r_push (v := nI 5) d_X9_copy_32 ?_
    refine r_V1 d_X9_copy_33 (c_X9_found (w := 5) (by decide)) rfl rfl rfl ⟨rfl, rfl⟩ (Nat.le_of_ble_eq_true rfl) ?_
    refine r_ireturn d_X9_copy_36 ⟨_, rfl, rfl⟩ ?_
    exact ⟨rfl, rfl⟩
set_option maxRecDepth 10000 in
set_option maxHeartbeats 4000000 in
theorem c_X9_copy_none1 {h : pm_H} {xi : Nat → Int32} {xl : Nat → Int64} {xc : Nat → Option Nat} {XA : Nat → Nat → Int32} {XB : Nat → Nat → Int64} {i j : Int32} {r t m : Nat} (hr : r < 4) (ht : t < 4) (hm : m < 2 ^ 31) (hz : xi (3 + r) = -1) : pm_Cv e_X9_copy [.ref 1, .int (nI r), .int i, .int (nI t), .int j, .int (nI m)] (pmX h xi xl xc XA XB) (.int (-3)) (x_meet h xi xl xc XA XB 1) := by
  refine pm_enter rfl (Nat.le_of_ble_eq_true rfl) ?_
  show pm_V e_X9_copy 0 [some (.ref 1), some (.int (nI r)), some (.int i), some (.int (nI t)), some (.int j), some (.int (nI m)), none, none] [] (pmX h xi xl xc XA XB) (0, 0) _
  refine r_aload_0 d_X9_copy_0 ?_
  refine r_iload_1 d_X9_copy_1 ?_
  refine r_V1 d_X9_copy_2 (c_X9_rowAt hr) rfl rfl rfl ⟨rfl, rfl⟩ (Nat.le_of_ble_eq_true rfl) ?_
  refine r_astore_6 d_X9_copy_5 (Nat.le_of_ble_eq_true rfl) (fun w hw => by cases hw <;> rfl) ?_
  refine r_aload_0 d_X9_copy_7 ?_
  refine r_iload_3 d_X9_copy_8 ?_
  refine r_V1 d_X9_copy_9 (c_X9_rowAt ht) rfl rfl rfl ⟨rfl, rfl⟩ (Nat.le_of_ble_eq_true rfl) ?_
  refine r_astore_7 d_X9_copy_12 (Nat.le_of_ble_eq_true rfl) (fun w hw => by cases hw <;> rfl) ?_
  refine r_aload_6 d_X9_copy_14 ?_
  refine r_ifnull d_X9_copy_16 ?_
  refine r_aload_7 d_X9_copy_19 ?_
  refine r_ifnonnull d_X9_copy_21 ?_
  refine r_iload_5 d_X9_copy_26 ?_
  refine r_if_ge d_X9_copy_28 (fun c28 => ?_) (fun c28 => ?_)
  · -- taken at 28
    have c28 : 0 ≤ m := (nI_leI (a := 0) (b := m) (by omega) (by omega)).mp c28
    refine r_aload_6 d_X9_copy_37 ?_
    refine r_V0 d_X9_copy_39 (c_X0_isThere (x_row hr hz)) (x_row hr hz) rfl rfl ⟨rfl, rfl⟩ (Nat.le_of_ble_eq_true rfl) ?_
    rw [show decide (0 ≤ (-1 : Int32)) = false from rfl]
    change pm_V _ _ _ (.int (nI 0) :: _) _ _ _
    refine r_if_eq d_X9_copy_42 (fun c42 => ?_) (fun c42 => absurd (by decide) c42)
    clear c42
    refine r_aload_0 d_X9_copy_53 ?_
    refine r_push (v := nI 1) d_X9_copy_54 ?_
    refine r_V1 d_X9_copy_55 (c_X9_found (w := 1) (by decide)) rfl rfl rfl ⟨rfl, rfl⟩ (Nat.le_of_ble_eq_true rfl) ?_
    refine r_ireturn d_X9_copy_58 ⟨_, rfl, rfl⟩ ?_
    exact ⟨rfl, rfl⟩
  · -- not taken at 28
    have c28 : ¬ 0 ≤ m := fun zz9 => c28 ((nI_leI (a := 0) (b := m) (by omega) (by omega)).mpr zz9)
    exfalso; omega
set_option maxRecDepth 10000 in
set_option maxHeartbeats 4000000 in
theorem c_X9_copy_none2 {h : pm_H} {xi : Nat → Int32} {xl : Nat → Int64} {xc : Nat → Option Nat} {XA : Nat → Nat → Int32} {XB : Nat → Nat → Int64} {i j : Int32} {r t m : Nat} (hr : r < 4) (ht : t < 4) (hm : m < 2 ^ 31) {z : Nat} (hz : xi (3 + r) = nI z) (hz64 : z ≤ 64) (hy : xi (3 + t) = -1) : pm_Cv e_X9_copy [.ref 1, .int (nI r), .int i, .int (nI t), .int j, .int (nI m)] (pmX h xi xl xc XA XB) (.int (-3)) (x_meet h xi xl xc XA XB 1) := by
  refine pm_enter rfl (Nat.le_of_ble_eq_true rfl) ?_
  show pm_V e_X9_copy 0 [some (.ref 1), some (.int (nI r)), some (.int i), some (.int (nI t)), some (.int j), some (.int (nI m)), none, none] [] (pmX h xi xl xc XA XB) (0, 0) _
  refine r_aload_0 d_X9_copy_0 ?_
  refine r_iload_1 d_X9_copy_1 ?_
  refine r_V1 d_X9_copy_2 (c_X9_rowAt hr) rfl rfl rfl ⟨rfl, rfl⟩ (Nat.le_of_ble_eq_true rfl) ?_
  refine r_astore_6 d_X9_copy_5 (Nat.le_of_ble_eq_true rfl) (fun w hw => by cases hw <;> rfl) ?_
  refine r_aload_0 d_X9_copy_7 ?_
  refine r_iload_3 d_X9_copy_8 ?_
  refine r_V1 d_X9_copy_9 (c_X9_rowAt ht) rfl rfl rfl ⟨rfl, rfl⟩ (Nat.le_of_ble_eq_true rfl) ?_
  refine r_astore_7 d_X9_copy_12 (Nat.le_of_ble_eq_true rfl) (fun w hw => by cases hw <;> rfl) ?_
  refine r_aload_6 d_X9_copy_14 ?_
  refine r_ifnull d_X9_copy_16 ?_
  refine r_aload_7 d_X9_copy_19 ?_
  refine r_ifnonnull d_X9_copy_21 ?_
  refine r_iload_5 d_X9_copy_26 ?_
  refine r_if_ge d_X9_copy_28 (fun c28 => ?_) (fun c28 => ?_)
  · -- taken at 28
    have c28 : 0 ≤ m := (nI_leI (a := 0) (b := m) (by omega) (by omega)).mp c28
    refine r_aload_6 d_X9_copy_37 ?_
    refine r_V0 d_X9_copy_39 (c_X0_isThere (x_row hr hz)) (x_row hr hz) rfl rfl ⟨rfl, rfl⟩ (Nat.le_of_ble_eq_true rfl) ?_
    rw [x_th hz64]
    change pm_V _ _ _ (.int (nI 1) :: _) _ _ _
    refine r_if_eq d_X9_copy_42 (fun c42 => absurd c42 (by decide)) (fun c42 => ?_)
    clear c42
    refine r_aload_7 d_X9_copy_45 ?_
    refine r_V0 d_X9_copy_47 (c_X0_isThere (x_row ht hy)) (x_row ht hy) rfl rfl ⟨rfl, rfl⟩ (Nat.le_of_ble_eq_true rfl) ?_
    rw [show decide (0 ≤ (-1 : Int32)) = false from rfl]
    change pm_V _ _ _ (.int (nI 0) :: _) _ _ _
    refine r_if_ne d_X9_copy_50 (fun c50 => absurd (by decide) c50) (fun c50 => ?_)
    clear c50
    refine r_aload_0 d_X9_copy_53 ?_
    refine r_push (v := nI 1) d_X9_copy_54 ?_
    refine r_V1 d_X9_copy_55 (c_X9_found (w := 1) (by decide)) rfl rfl rfl ⟨rfl, rfl⟩ (Nat.le_of_ble_eq_true rfl) ?_
    refine r_ireturn d_X9_copy_58 ⟨_, rfl, rfl⟩ ?_
    exact ⟨rfl, rfl⟩
  · -- not taken at 28
    have c28 : ¬ 0 ≤ m := fun zz9 => c28 ((nI_leI (a := 0) (b := m) (by omega) (by omega)).mpr zz9)
    exfalso; omega
set_option maxRecDepth 10000 in
set_option maxHeartbeats 4000000 in
theorem c_X9_copy_far1 {h : pm_H} {xi : Nat → Int32} {xl : Nat → Int64} {xc : Nat → Option Nat} {XA : Nat → Nat → Int32} {XB : Nat → Nat → Int64} {i j : Int32} {r t m : Nat} (hr : r < 4) (ht : t < 4) (hm : m < 2 ^ 31) {z : Nat} (hz : xi (3 + r) = nI z) (hz64 : z ≤ 64) {y : Nat} (hy : xi (3 + t) = nI y) (hy64 : y ≤ 64) (h1 : ¬ (0 ≤ i ∧ i ≤ nI z - nI m)) : pm_Cv e_X9_copy [.ref 1, .int (nI r), .int i, .int (nI t), .int j, .int (nI m)] (pmX h xi xl xc XA XB) (.int (-3)) (x_meet h xi xl xc XA XB 2) := by
  refine pm_enter rfl (Nat.le_of_ble_eq_true rfl) ?_
  show pm_V e_X9_copy 0 [some (.ref 1), some (.int (nI r)), some (.int i), some (.int (nI t)), some (.int j), some (.int (nI m)), none, none] [] (pmX h xi xl xc XA XB) (0, 0) _
  refine r_aload_0 d_X9_copy_0 ?_
  refine r_iload_1 d_X9_copy_1 ?_
  refine r_V1 d_X9_copy_2 (c_X9_rowAt hr) rfl rfl rfl ⟨rfl, rfl⟩ (Nat.le_of_ble_eq_true rfl) ?_
  refine r_astore_6 d_X9_copy_5 (Nat.le_of_ble_eq_true rfl) (fun w hw => by cases hw <;> rfl) ?_
  refine r_aload_0 d_X9_copy_7 ?_
  refine r_iload_3 d_X9_copy_8 ?_
  refine r_V1 d_X9_copy_9 (c_X9_rowAt ht) rfl rfl rfl ⟨rfl, rfl⟩ (Nat.le_of_ble_eq_true rfl) ?_
  refine r_astore_7 d_X9_copy_12 (Nat.le_of_ble_eq_true rfl) (fun w hw => by cases hw <;> rfl) ?_
  refine r_aload_6 d_X9_copy_14 ?_
  refine r_ifnull d_X9_copy_16 ?_
  refine r_aload_7 d_X9_copy_19 ?_
  refine r_ifnonnull d_X9_copy_21 ?_
  refine r_iload_5 d_X9_copy_26 ?_
  refine r_if_ge d_X9_copy_28 (fun c28 => ?_) (fun c28 => ?_)
  · -- taken at 28
    have c28 : 0 ≤ m := (nI_leI (a := 0) (b := m) (by omega) (by omega)).mp c28
    refine r_aload_6 d_X9_copy_37 ?_
    refine r_V0 d_X9_copy_39 (c_X0_isThere (x_row hr hz)) (x_row hr hz) rfl rfl ⟨rfl, rfl⟩ (Nat.le_of_ble_eq_true rfl) ?_
    rw [x_th hz64]
    change pm_V _ _ _ (.int (nI 1) :: _) _ _ _
    refine r_if_eq d_X9_copy_42 (fun c42 => absurd c42 (by decide)) (fun c42 => ?_)
    clear c42
    refine r_aload_7 d_X9_copy_45 ?_
    refine r_V0 d_X9_copy_47 (c_X0_isThere (x_row ht hy)) (x_row ht hy) rfl rfl ⟨rfl, rfl⟩ (Nat.le_of_ble_eq_true rfl) ?_
    rw [x_th hy64]
    change pm_V _ _ _ (.int (nI 1) :: _) _ _ _
    refine r_if_ne d_X9_copy_50 (fun c50 => ?_) (fun c50 => absurd c50 (by decide))
    clear c50
    refine r_aload_6 d_X9_copy_59 ?_
    refine r_iload_2 d_X9_copy_61 ?_
    refine r_iload_5 d_X9_copy_62 ?_
    refine r_V2 d_X9_copy_64 (c_X0_hasBytes (x_row hr hz)) (x_row hr hz) rfl rfl ⟨rfl, rfl⟩ (Nat.le_of_ble_eq_true rfl) ?_
    rw [show decide (0 ≤ i ∧ i ≤ nI z - nI m) = false from decide_eq_false h1]
    change pm_V _ _ _ (.int (nI 0) :: _) _ _ _
    refine r_if_eq d_X9_copy_67 (fun c67 => ?_) (fun c67 => absurd (by decide) c67)
    clear c67
    refine r_aload_0 d_X9_copy_82 ?_
    refine r_push (v := nI 2) d_X9_copy_83 ?_
    refine r_V1 d_X9_copy_84 (c_X9_found (w := 2) (by decide)) rfl rfl rfl ⟨rfl, rfl⟩ (Nat.le_of_ble_eq_true rfl) ?_
    refine r_ireturn d_X9_copy_87 ⟨_, rfl, rfl⟩ ?_
    exact ⟨rfl, rfl⟩
  · -- not taken at 28
    have c28 : ¬ 0 ≤ m := fun zz9 => c28 ((nI_leI (a := 0) (b := m) (by omega) (by omega)).mpr zz9)
    exfalso; omega
set_option maxRecDepth 10000 in
set_option maxHeartbeats 4000000 in
theorem c_X9_copy_far2 {h : pm_H} {xi : Nat → Int32} {xl : Nat → Int64} {xc : Nat → Option Nat} {XA : Nat → Nat → Int32} {XB : Nat → Nat → Int64} {i j : Int32} {r t m : Nat} (hr : r < 4) (ht : t < 4) (hm : m < 2 ^ 31) {z : Nat} (hz : xi (3 + r) = nI z) (hz64 : z ≤ 64) {y : Nat} (hy : xi (3 + t) = nI y) (hy64 : y ≤ 64) (h1 : (0 ≤ i ∧ i ≤ nI z - nI m)) (h2 : ¬ (0 ≤ j ∧ j ≤ nI y - nI m)) : pm_Cv e_X9_copy [.ref 1, .int (nI r), .int i, .int (nI t), .int j, .int (nI m)] (pmX h xi xl xc XA XB) (.int (-3)) (x_meet h xi xl xc XA XB 2) := by
  refine pm_enter rfl (Nat.le_of_ble_eq_true rfl) ?_
  show pm_V e_X9_copy 0 [some (.ref 1), some (.int (nI r)), some (.int i), some (.int (nI t)), some (.int j), some (.int (nI m)), none, none] [] (pmX h xi xl xc XA XB) (0, 0) _
  refine r_aload_0 d_X9_copy_0 ?_
  refine r_iload_1 d_X9_copy_1 ?_
  refine r_V1 d_X9_copy_2 (c_X9_rowAt hr) rfl rfl rfl ⟨rfl, rfl⟩ (Nat.le_of_ble_eq_true rfl) ?_
  refine r_astore_6 d_X9_copy_5 (Nat.le_of_ble_eq_true rfl) (fun w hw => by cases hw <;> rfl) ?_
  refine r_aload_0 d_X9_copy_7 ?_
  refine r_iload_3 d_X9_copy_8 ?_
  refine r_V1 d_X9_copy_9 (c_X9_rowAt ht) rfl rfl rfl ⟨rfl, rfl⟩ (Nat.le_of_ble_eq_true rfl) ?_
  refine r_astore_7 d_X9_copy_12 (Nat.le_of_ble_eq_true rfl) (fun w hw => by cases hw <;> rfl) ?_
  refine r_aload_6 d_X9_copy_14 ?_
  refine r_ifnull d_X9_copy_16 ?_
  refine r_aload_7 d_X9_copy_19 ?_
  refine r_ifnonnull d_X9_copy_21 ?_
  refine r_iload_5 d_X9_copy_26 ?_
  refine r_if_ge d_X9_copy_28 (fun c28 => ?_) (fun c28 => ?_)
  · -- taken at 28
    have c28 : 0 ≤ m := (nI_leI (a := 0) (b := m) (by omega) (by omega)).mp c28
    refine r_aload_6 d_X9_copy_37 ?_
    refine r_V0 d_X9_copy_39 (c_X0_isThere (x_row hr hz)) (x_row hr hz) rfl rfl ⟨rfl, rfl⟩ (Nat.le_of_ble_eq_true rfl) ?_
    rw [x_th hz64]
    change pm_V _ _ _ (.int (nI 1) :: _) _ _ _
    refine r_if_eq d_X9_copy_42 (fun c42 => absurd c42 (by decide)) (fun c42 => ?_)
    clear c42
    refine r_aload_7 d_X9_copy_45 ?_
    refine r_V0 d_X9_copy_47 (c_X0_isThere (x_row ht hy)) (x_row ht hy) rfl rfl ⟨rfl, rfl⟩ (Nat.le_of_ble_eq_true rfl) ?_
    rw [x_th hy64]
    change pm_V _ _ _ (.int (nI 1) :: _) _ _ _
    refine r_if_ne d_X9_copy_50 (fun c50 => ?_) (fun c50 => absurd c50 (by decide))
    clear c50
    refine r_aload_6 d_X9_copy_59 ?_
    refine r_iload_2 d_X9_copy_61 ?_
    refine r_iload_5 d_X9_copy_62 ?_
    refine r_V2 d_X9_copy_64 (c_X0_hasBytes (x_row hr hz)) (x_row hr hz) rfl rfl ⟨rfl, rfl⟩ (Nat.le_of_ble_eq_true rfl) ?_
    rw [show decide (0 ≤ i ∧ i ≤ nI z - nI m) = true from decide_eq_true h1]
    change pm_V _ _ _ (.int (nI 1) :: _) _ _ _
    refine r_if_eq d_X9_copy_67 (fun c67 => absurd c67 (by decide)) (fun c67 => ?_)
    clear c67
    refine r_aload_7 d_X9_copy_70 ?_
    refine r_iload_4 d_X9_copy_72 ?_
    refine r_iload_5 d_X9_copy_74 ?_
    refine r_V2 d_X9_copy_76 (c_X0_hasBytes (x_row ht hy)) (x_row ht hy) rfl rfl ⟨rfl, rfl⟩ (Nat.le_of_ble_eq_true rfl) ?_
    rw [show decide (0 ≤ j ∧ j ≤ nI y - nI m) = false from decide_eq_false h2]
    change pm_V _ _ _ (.int (nI 0) :: _) _ _ _
    refine r_if_ne d_X9_copy_79 (fun c79 => absurd (by decide) c79) (fun c79 => ?_)
    clear c79
    refine r_aload_0 d_X9_copy_82 ?_
    refine r_push (v := nI 2) d_X9_copy_83 ?_
    refine r_V1 d_X9_copy_84 (c_X9_found (w := 2) (by decide)) rfl rfl rfl ⟨rfl, rfl⟩ (Nat.le_of_ble_eq_true rfl) ?_
    refine r_ireturn d_X9_copy_87 ⟨_, rfl, rfl⟩ ?_
    exact ⟨rfl, rfl⟩
  · -- not taken at 28
    have c28 : ¬ 0 ≤ m := fun zz9 => c28 ((nI_leI (a := 0) (b := m) (by omega) (by omega)).mpr zz9)
    exfalso; omega
set_option maxRecDepth 10000 in
set_option maxHeartbeats 4000000 in
theorem c_X9_copy {h : pm_H} {xi : Nat → Int32} {xl : Nat → Int64} {xc : Nat → Option Nat} {XA : Nat → Nat → Int32} {XB : Nat → Nat → Int64} {r t m a c : Nat} (hr : r < 4) (ht : t < 4) {z : Nat} (hz : xi (3 + r) = nI z) (hz64 : z ≤ 64) {y : Nat} (hy : xi (3 + t) = nI y) (hy64 : y ≤ 64) (hb : ∀ j, vp_nar .byte ((XA (37 + 2 * r)) j) = (XA (37 + 2 * r)) j) (hf : a + m ≤ z) (hf2 : c + m ≤ y) : pm_Cv e_X9_copy [.ref 1, .int (nI r), .int (nI a), .int (nI t), .int (nI c), .int (nI m)] (pmX h xi xl xc XA XB) (.int 1) (pmX h xi xl xc (va_up XA (37 + 2 * t) (va_cpy (XA (37 + 2 * r)) (XA (37 + 2 * t)) a c m)) XB) := by
  have d1 : (0 ≤ nI a ∧ nI a ≤ nI z - nI m) := by
    rw [pk_sub (by omega)]
    exact ⟨(nI_leI (a := 0) (b := a) (by omega) (by omega)).mpr (Nat.zero_le _), (nI_leI (by omega) (by omega)).mpr (by omega)⟩
  have d2 : (0 ≤ nI c ∧ nI c ≤ nI y - nI m) := by
    rw [pk_sub (by omega)]
    exact ⟨(nI_leI (a := 0) (b := c) (by omega) (by omega)).mpr (Nat.zero_le _), (nI_leI (by omega) (by omega)).mpr (by omega)⟩
  refine pm_enter rfl (Nat.le_of_ble_eq_true rfl) ?_
  show pm_V e_X9_copy 0 [some (.ref 1), some (.int (nI r)), some (.int (nI a)), some (.int (nI t)), some (.int (nI c)), some (.int (nI m)), none, none] [] (pmX h xi xl xc XA XB) (0, 0) _
  refine r_aload_0 d_X9_copy_0 ?_
  refine r_iload_1 d_X9_copy_1 ?_
  refine r_V1 d_X9_copy_2 (c_X9_rowAt hr) rfl rfl rfl ⟨rfl, rfl⟩ (Nat.le_of_ble_eq_true rfl) ?_
  refine r_astore_6 d_X9_copy_5 (Nat.le_of_ble_eq_true rfl) (fun w hw => by cases hw <;> rfl) ?_
  refine r_aload_0 d_X9_copy_7 ?_
  refine r_iload_3 d_X9_copy_8 ?_
  refine r_V1 d_X9_copy_9 (c_X9_rowAt ht) rfl rfl rfl ⟨rfl, rfl⟩ (Nat.le_of_ble_eq_true rfl) ?_
  refine r_astore_7 d_X9_copy_12 (Nat.le_of_ble_eq_true rfl) (fun w hw => by cases hw <;> rfl) ?_
  refine r_aload_6 d_X9_copy_14 ?_
  refine r_ifnull d_X9_copy_16 ?_
  refine r_aload_7 d_X9_copy_19 ?_
  refine r_ifnonnull d_X9_copy_21 ?_
  refine r_iload_5 d_X9_copy_26 ?_
  refine r_if_ge d_X9_copy_28 (fun c28 => ?_) (fun c28 => ?_)
  · -- taken at 28
    have c28 : 0 ≤ m := (nI_leI (a := 0) (b := m) (by omega) (by omega)).mp c28
    refine r_aload_6 d_X9_copy_37 ?_
    refine r_V0 d_X9_copy_39 (c_X0_isThere (x_row hr hz)) (x_row hr hz) rfl rfl ⟨rfl, rfl⟩ (Nat.le_of_ble_eq_true rfl) ?_
    rw [x_th hz64]
    change pm_V _ _ _ (.int (nI 1) :: _) _ _ _
    refine r_if_eq d_X9_copy_42 (fun c42 => absurd c42 (by decide)) (fun c42 => ?_)
    clear c42
    refine r_aload_7 d_X9_copy_45 ?_
    refine r_V0 d_X9_copy_47 (c_X0_isThere (x_row ht hy)) (x_row ht hy) rfl rfl ⟨rfl, rfl⟩ (Nat.le_of_ble_eq_true rfl) ?_
    rw [x_th hy64]
    change pm_V _ _ _ (.int (nI 1) :: _) _ _ _
    refine r_if_ne d_X9_copy_50 (fun c50 => ?_) (fun c50 => absurd c50 (by decide))
    clear c50
    refine r_aload_6 d_X9_copy_59 ?_
    refine r_iload_2 d_X9_copy_61 ?_
    refine r_iload_5 d_X9_copy_62 ?_
    refine r_V2 d_X9_copy_64 (c_X0_hasBytes (x_row hr hz)) (x_row hr hz) rfl rfl ⟨rfl, rfl⟩ (Nat.le_of_ble_eq_true rfl) ?_
    rw [show decide (0 ≤ nI a ∧ nI a ≤ nI z - nI m) = true from decide_eq_true d1]
    change pm_V _ _ _ (.int (nI 1) :: _) _ _ _
    refine r_if_eq d_X9_copy_67 (fun c67 => absurd c67 (by decide)) (fun c67 => ?_)
    clear c67
    refine r_aload_7 d_X9_copy_70 ?_
    refine r_iload_4 d_X9_copy_72 ?_
    refine r_iload_5 d_X9_copy_74 ?_
    refine r_V2 d_X9_copy_76 (c_X0_hasBytes (x_row ht hy)) (x_row ht hy) rfl rfl ⟨rfl, rfl⟩ (Nat.le_of_ble_eq_true rfl) ?_
    rw [show decide (0 ≤ nI c ∧ nI c ≤ nI y - nI m) = true from decide_eq_true d2]
    change pm_V _ _ _ (.int (nI 1) :: _) _ _ _
    refine r_if_ne d_X9_copy_79 (fun c79 => ?_) (fun c79 => absurd c79 (by decide))
    clear c79
    refine r_aload_6 d_X9_copy_88 ?_
    refine r_get d_X9_copy_90 s0_bytes (x_row hr hz) rfl ?_
    refine r_iload_2 d_X9_copy_93 ?_
    refine r_aload_7 d_X9_copy_94 ?_
    refine r_get d_X9_copy_96 s0_bytes (x_row ht hy) rfl ?_
    refine r_iload_4 d_X9_copy_99 ?_
    refine r_iload_5 d_X9_copy_101 ?_
    refine r_copyi (t0 := 2) (sp := a) (dp := c) (k := m) d_X9_copy_103 wm_586 wm_419 wm_418 wm_55 rfl rfl (xr_l hr) (xr_l ht) ⟨Int32.not_lt.mpr ((nI_leI (a := 0) (b := a) (by omega) (by omega)).mpr (Nat.zero_le _)), nI_clamp (by omega)⟩ ⟨Int32.not_lt.mpr ((nI_leI (a := 0) (b := c) (by omega) (by omega)).mpr (Nat.zero_le _)), nI_clamp (by omega)⟩ ⟨Int32.not_lt.mpr ((nI_leI (a := 0) (b := m) (by omega) (by omega)).mpr (Nat.zero_le _)), nI_clamp (by omega)⟩ (by omega) (by omega) (fun i _ => pm_fitY (hb _)) (by decide) (by decide +kernel) ?_
    rw [xr_up ht]
    refine r_push (v := nI 1) d_X9_copy_106 ?_
    refine r_ireturn d_X9_copy_107 ⟨_, rfl, rfl⟩ ?_
    exact ⟨rfl, rfl⟩
  · -- not taken at 28
    have c28 : ¬ 0 ≤ m := fun zz9 => c28 ((nI_leI (a := 0) (b := m) (by omega) (by omega)).mpr zz9)
    exfalso; omega
