set_option maxRecDepth 10000 in
set_option maxHeartbeats 4000000 in
theorem c_X9_asked {h : pm_H} {xi : Nat → Int32} {xl : Nat → Int64} {xc : Nat → Option Nat} {XA : Nat → Nat → Int32} {XB : Nat → Nat → Int64} : pm_Cv e_X9_asked [.ref 1] (pmX h xi xl xc XA XB) (.long (xl 0)) (pmX h xi xl xc XA XB) := by
  refine pm_enter rfl (Nat.le_of_ble_eq_true rfl) ?_
  show pm_V e_X9_asked 0 [some (.ref 1)] [] (pmX h xi xl xc XA XB) (0, 0) _
  refine r_aload_0 d_X9_asked_0 ?_
  refine r_get d_X9_asked_1 s9_lastAsked rfl rfl ?_
  refine r_lreturn d_X9_asked_4 rfl ?_
  exact ⟨rfl, rfl⟩
set_option maxRecDepth 10000 in
set_option maxHeartbeats 4000000 in
theorem c_X9_upper {h : pm_H} {xi : Nat → Int32} {xl : Nat → Int64} {xc : Nat → Option Nat} {XA : Nat → Nat → Int32} {XB : Nat → Nat → Int64} : pm_Cv e_X9_upper [.ref 1] (pmX h xi xl xc XA XB) (.long (xl 1)) (pmX h xi xl xc XA XB) := by
  refine pm_enter rfl (Nat.le_of_ble_eq_true rfl) ?_
  show pm_V e_X9_upper 0 [some (.ref 1)] [] (pmX h xi xl xc XA XB) (0, 0) _
  refine r_aload_0 d_X9_upper_0 ?_
  refine r_get d_X9_upper_1 s9_fractionUpper rfl rfl ?_
  refine r_lreturn d_X9_upper_4 rfl ?_
  exact ⟨rfl, rfl⟩
set_option maxRecDepth 10000 in
set_option maxHeartbeats 4000000 in
theorem c_X9_lower {h : pm_H} {xi : Nat → Int32} {xl : Nat → Int64} {xc : Nat → Option Nat} {XA : Nat → Nat → Int32} {XB : Nat → Nat → Int64} : pm_Cv e_X9_lower [.ref 1] (pmX h xi xl xc XA XB) (.long (xl 2)) (pmX h xi xl xc XA XB) := by
  refine pm_enter rfl (Nat.le_of_ble_eq_true rfl) ?_
  show pm_V e_X9_lower 0 [some (.ref 1)] [] (pmX h xi xl xc XA XB) (0, 0) _
  refine r_aload_0 d_X9_lower_0 ?_
  refine r_get d_X9_lower_1 s9_fractionLower rfl rfl ?_
  refine r_lreturn d_X9_lower_4 rfl ?_
  exact ⟨rfl, rfl⟩
set_option maxRecDepth 10000 in
set_option maxHeartbeats 4000000 in
theorem c_X9_finding {h : pm_H} {xi : Nat → Int32} {xl : Nat → Int64} {xc : Nat → Option Nat} {XA : Nat → Nat → Int32} {XB : Nat → Nat → Int64} : pm_Cv e_X9_finding [.ref 1] (pmX h xi xl xc XA XB) (.int (xi 1)) (pmX h xi xl xc XA XB) := by
  refine pm_enter rfl (Nat.le_of_ble_eq_true rfl) ?_
  show pm_V e_X9_finding 0 [some (.ref 1)] [] (pmX h xi xl xc XA XB) (0, 0) _
  refine r_aload_0 d_X9_finding_0 ?_
  refine r_get d_X9_finding_1 s9_latestFinding rfl rfl ?_
  refine r_ireturn d_X9_finding_4 ⟨_, rfl, rfl⟩ ?_
  exact ⟨rfl, rfl⟩
set_option maxRecDepth 10000 in
set_option maxHeartbeats 4000000 in
theorem c_X9_findings_bad {h : pm_H} {xi : Nat → Int32} {xl : Nat → Int64} {xc : Nat → Option Nat} {XA : Nat → Nat → Int32} {XB : Nat → Nat → Int64} {f : Int32} (hf : sp_in f 1 5 = false) : pm_Cv e_X9_findings [.ref 1, .int f] (pmX h xi xl xc XA XB) (.int (-1)) (pmX h xi xl xc XA XB) := by
  refine pm_enter rfl (Nat.le_of_ble_eq_true rfl) ?_
  show pm_V e_X9_findings 0 [some (.ref 1), some (.int f)] [] (pmX h xi xl xc XA XB) (0, 0) _
  refine r_iload_1 d_X9_findings_0 ?_
  refine r_push d_X9_findings_1 ?_
  refine r_icmp_lt d_X9_findings_2 (fun c2 => ?_) (fun c2 => ?_)
  · -- taken at 2
    refine r_push d_X9_findings_10 ?_
    refine r_goto d_X9_findings_11 ?_
    refine r_ireturn d_X9_findings_20 ⟨_, rfl, rfl⟩ ?_
    exact ⟨rfl, rfl⟩
  · -- not taken at 2
    refine r_iload_1 d_X9_findings_5 ?_
    refine r_push d_X9_findings_6 ?_
    refine r_icmp_le d_X9_findings_7 (fun c7 => ?_) (fun c7 => ?_)
    · -- taken at 7
      exact absurd ⟨Int32.not_lt.mp c2, c7⟩ (of_decide_eq_false hf)
    · -- not taken at 7
      refine r_push d_X9_findings_10 ?_
      refine r_goto d_X9_findings_11 ?_
      refine r_ireturn d_X9_findings_20 ⟨_, rfl, rfl⟩ ?_
      exact ⟨rfl, rfl⟩
set_option maxRecDepth 10000 in
set_option maxHeartbeats 4000000 in
theorem c_X9_findings {h : pm_H} {xi : Nat → Int32} {xl : Nat → Int64} {xc : Nat → Option Nat} {XA : Nat → Nat → Int32} {XB : Nat → Nat → Int64} {f : Nat} (hf : 1 ≤ f ∧ f ≤ 5) : pm_Cv e_X9_findings [.ref 1, .int (nI f)] (pmX h xi xl xc XA XB) (.int (XA 19 f)) (pmX h xi xl xc XA XB) := by
  refine pm_enter rfl (Nat.le_of_ble_eq_true rfl) ?_
  show pm_V e_X9_findings 0 [some (.ref 1), some (.int (nI f))] [] (pmX h xi xl xc XA XB) (0, 0) _
  refine r_iload_1 d_X9_findings_0 ?_
  refine r_push (v := nI 1) d_X9_findings_1 ?_
  refine r_icmp_lt d_X9_findings_2 (fun c2 => ?_) (fun c2 => ?_)
  · -- taken at 2
    have c2 : f < 1 := (nI_ltI (a := f) (b := 1) (by omega) (by omega)).mp c2
    exfalso; omega
  · -- not taken at 2
    have c2 : ¬ f < 1 := fun zz9 => c2 ((nI_ltI (a := f) (b := 1) (by omega) (by omega)).mpr zz9)
    refine r_iload_1 d_X9_findings_5 ?_
    refine r_push (v := nI 5) d_X9_findings_6 ?_
    refine r_icmp_le d_X9_findings_7 (fun c7 => ?_) (fun c7 => ?_)
    · -- taken at 7
      have c7 : f ≤ 5 := (nI_leI (a := f) (b := 5) (by omega) (by omega)).mp c7
      refine r_aload_0 d_X9_findings_14 ?_
      refine r_get d_X9_findings_15 s9_findingTimes rfl rfl ?_
      refine r_iload_1 d_X9_findings_18 ?_
      refine r_iald d_X9_findings_19 rfl (pm_ixN (by omega) (by omega)) ?_
      refine r_ireturn d_X9_findings_20 ⟨_, rfl, rfl⟩ ?_
      exact ⟨rfl, rfl⟩
    · -- not taken at 7
      have c7 : ¬ f ≤ 5 := fun zz9 => c7 ((nI_leI (a := f) (b := 5) (by omega) (by omega)).mpr zz9)
      exfalso; omega
set_option maxRecDepth 10000 in
set_option maxHeartbeats 4000000 in
theorem c_X9_need_1 {h : pm_H} {xi : Nat → Int32} {xl : Nat → Int64} {xc : Nat → Option Nat} {XA : Nat → Nat → Int32} {XB : Nat → Nat → Int64} {c o : Int32} {cn : Nat} {C : Nat → sp_Cs} (hCC : x_CC h xi xc cn C) (hci : pm_ci c cn = none) (hco : pm_ci o cn = none) : pm_Cv e_X9_need [.ref 1, .int c, .int o] (pmX h xi xl xc XA XB) (.int (-1)) (pmX h xi xl xc XA XB) := by
  refine pm_enter rfl (Nat.le_of_ble_eq_true rfl) ?_
  show pm_V e_X9_need 0 [some (.ref 1), some (.int c), some (.int o), none, none, none] [] (pmX h xi xl xc XA XB) (0, 0) _
  refine r_aload_0 d_X9_need_0 ?_
  refine r_iload_1 d_X9_need_1 ?_
  refine r_V1 d_X9_need_2 (c_X9_casterAt_no hCC.1 hci) rfl rfl rfl ⟨rfl, rfl⟩ (Nat.le_of_ble_eq_true rfl) ?_
  refine r_astoreN_3 d_X9_need_5 (Nat.le_of_ble_eq_true rfl) (fun w hw => by cases hw <;> rfl) ?_
  refine r_aload_0 d_X9_need_6 ?_
  refine r_iload_2 d_X9_need_7 ?_
  refine r_V1 d_X9_need_8 (c_X9_casterAt_no hCC.1 hco) rfl rfl rfl ⟨rfl, rfl⟩ (Nat.le_of_ble_eq_true rfl) ?_
  refine r_astoreN_4 d_X9_need_11 (Nat.le_of_ble_eq_true rfl) (fun w hw => by cases hw <;> rfl) ?_
  refine r_aloadN_3 d_X9_need_13 ?_
  refine r_ifnullN d_X9_need_14 ?_
  refine r_push d_X9_need_22 ?_
  refine r_ireturn d_X9_need_23 ⟨_, rfl, rfl⟩ ?_
  exact ⟨rfl, rfl⟩
set_option maxRecDepth 10000 in
set_option maxHeartbeats 4000000 in
theorem c_X9_need_2 {h : pm_H} {xi : Nat → Int32} {xl : Nat → Int64} {xc : Nat → Option Nat} {XA : Nat → Nat → Int32} {XB : Nat → Nat → Int64} {c : Int32} {j : Nat} {cn : Nat} {C : Nat → sp_Cs} (hCC : x_CC h xi xc cn C) (hci : pm_ci c cn = none) (hj : j < cn) : pm_Cv e_X9_need [.ref 1, .int c, .int (nI j)] (pmX h xi xl xc XA XB) (.int (-1)) (pmX h xi xl xc XA XB) := by
  refine pm_enter rfl (Nat.le_of_ble_eq_true rfl) ?_
  show pm_V e_X9_need 0 [some (.ref 1), some (.int c), some (.int (nI j)), none, none, none] [] (pmX h xi xl xc XA XB) (0, 0) _
  refine r_aload_0 d_X9_need_0 ?_
  refine r_iload_1 d_X9_need_1 ?_
  refine r_V1 d_X9_need_2 (c_X9_casterAt_no hCC.1 hci) rfl rfl rfl ⟨rfl, rfl⟩ (Nat.le_of_ble_eq_true rfl) ?_
  refine r_astoreN_3 d_X9_need_5 (Nat.le_of_ble_eq_true rfl) (fun w hw => by cases hw <;> rfl) ?_
  refine r_aload_0 d_X9_need_6 ?_
  refine r_iload_2 d_X9_need_7 ?_
  refine r_V1 d_X9_need_8 (c_X9_casterAt hCC hj) rfl rfl rfl ⟨rfl, rfl⟩ (Nat.le_of_ble_eq_true rfl) ?_
  refine r_astore_4 d_X9_need_11 (Nat.le_of_ble_eq_true rfl) (fun w hw => by cases hw <;> rfl) ?_
  refine r_aloadN_3 d_X9_need_13 ?_
  refine r_ifnullN d_X9_need_14 ?_
  refine r_push d_X9_need_22 ?_
  refine r_ireturn d_X9_need_23 ⟨_, rfl, rfl⟩ ?_
  exact ⟨rfl, rfl⟩
set_option maxRecDepth 10000 in
set_option maxHeartbeats 4000000 in
theorem c_X9_need_3 {h : pm_H} {xi : Nat → Int32} {xl : Nat → Int64} {xc : Nat → Option Nat} {XA : Nat → Nat → Int32} {XB : Nat → Nat → Int64} {o : Int32} {j : Nat} {cn : Nat} {C : Nat → sp_Cs} (hCC : x_CC h xi xc cn C) (hj : j < cn) (hco : pm_ci o cn = none) : pm_Cv e_X9_need [.ref 1, .int (nI j), .int o] (pmX h xi xl xc XA XB) (.int (-1)) (pmX h xi xl xc XA XB) := by
  refine pm_enter rfl (Nat.le_of_ble_eq_true rfl) ?_
  show pm_V e_X9_need 0 [some (.ref 1), some (.int (nI j)), some (.int o), none, none, none] [] (pmX h xi xl xc XA XB) (0, 0) _
  refine r_aload_0 d_X9_need_0 ?_
  refine r_iload_1 d_X9_need_1 ?_
  refine r_V1 d_X9_need_2 (c_X9_casterAt hCC hj) rfl rfl rfl ⟨rfl, rfl⟩ (Nat.le_of_ble_eq_true rfl) ?_
  refine r_astore_3 d_X9_need_5 (Nat.le_of_ble_eq_true rfl) (fun w hw => by cases hw <;> rfl) ?_
  refine r_aload_0 d_X9_need_6 ?_
  refine r_iload_2 d_X9_need_7 ?_
  refine r_V1 d_X9_need_8 (c_X9_casterAt_no hCC.1 hco) rfl rfl rfl ⟨rfl, rfl⟩ (Nat.le_of_ble_eq_true rfl) ?_
  refine r_astoreN_4 d_X9_need_11 (Nat.le_of_ble_eq_true rfl) (fun w hw => by cases hw <;> rfl) ?_
  refine r_aload_3 d_X9_need_13 ?_
  refine r_ifnull d_X9_need_14 ?_
  refine r_aloadN_4 d_X9_need_17 ?_
  refine r_ifnonnullN d_X9_need_19 ?_
  refine r_push d_X9_need_22 ?_
  refine r_ireturn d_X9_need_23 ⟨_, rfl, rfl⟩ ?_
  exact ⟨rfl, rfl⟩
set_option maxRecDepth 10000 in
set_option maxHeartbeats 4000000 in
theorem c_X9_need {h : pm_H} {xi : Nat → Int32} {xl : Nat → Int64} {xc : Nat → Option Nat} {XA : Nat → Nat → Int32} {XB : Nat → Nat → Int64} {i j : Nat} {cn : Nat} {C : Nat → sp_Cs} (hCC : x_CC h xi xc cn C) (hi9 : i < cn) (hj : j < cn) : pm_Cl e_X9_need [.ref 1, .int (nI i), .int (nI j)] (pmX h xi xl xc XA XB) (fun v9 h1 => v9 = some (.int (if (sp_need (C i) (C j)) = 0 then -9 else nI ((9999999 + (sp_need (C i) (C j))) / (sp_need (C i) (C j))))) ∧ ∃ x1 A1 B1, h1 = pmX h xi x1 xc A1 B1 ∧ x_l4 xl x1 ∧ ∀ q, q ≠ 17 → q ≠ 18 → A1 q = XA q) := by
  have hA : pm_Cv e_X9_casterAt [.ref 1, .int (nI i)] (pmX h xi xl xc XA XB) (.ref (68 + i)) (pmX h xi xl xc XA XB) := c_X9_casterAt hCC hi9
  have hB : pm_Cv e_X9_casterAt [.ref 1, .int (nI j)] (pmX h xi xl xc XA XB) (.ref (68 + j)) (pmX h xi xl xc XA XB) := c_X9_casterAt hCC hj
  have hcs := (hCC.2.2 i hi9).2
  have hcs2 := (hCC.2.2 j hj).2
  generalize C i = q9 at hcs ⊢
  obtain ⟨kd, n, k, f, lo, hi⟩ := q9
  change pm_cs h (68 + i) kd n k f lo hi at hcs
  generalize C j = q9 at hcs2 ⊢
  obtain ⟨kd2, n2, k2, f2, lo2, hi2⟩ := q9
  change pm_cs h (68 + j) kd2 n2 k2 f2 lo2 hi2 at hcs2
  obtain ⟨w1, w2, w3⟩ := x_Wc hcs
  obtain ⟨v1, v2, v3⟩ := x_Wc hcs2
  have a1 := sp_ptw_all (q := (kd, n, k, f, lo, hi)) (x_kk hcs)
  have a2 := sp_ptw_all (q := (kd2, n2, k2, f2, lo2, hi2)) (x_kk hcs2)
  have a3 : sp_need (kd, n, k, f, lo, hi) (kd2, n2, k2, f2, lo2, hi2) ≤ 2000000 := Nat.le_trans sp_ad_le (by omega)
  refine pm_enter rfl (Nat.le_of_ble_eq_true rfl) ?_
  show pm_V e_X9_need 0 [some (.ref 1), some (.int (nI i)), some (.int (nI j)), none, none, none] [] (pmX h xi xl xc XA XB) (0, 0) _
  refine r_aload_0 d_X9_need_0 ?_
  refine r_iload_1 d_X9_need_1 ?_
  refine r_V1 d_X9_need_2 hA rfl rfl rfl ⟨rfl, rfl⟩ (Nat.le_of_ble_eq_true rfl) ?_
  refine r_astore_3 d_X9_need_5 (Nat.le_of_ble_eq_true rfl) (fun w hw => by cases hw <;> rfl) ?_
  refine r_aload_0 d_X9_need_6 ?_
  refine r_iload_2 d_X9_need_7 ?_
  refine r_V1 d_X9_need_8 hB rfl rfl rfl ⟨rfl, rfl⟩ (Nat.le_of_ble_eq_true rfl) ?_
  refine r_astore_4 d_X9_need_11 (Nat.le_of_ble_eq_true rfl) (fun w hw => by cases hw <;> rfl) ?_
  refine r_aload_3 d_X9_need_13 ?_
  refine r_ifnull d_X9_need_14 ?_
  refine r_aload_4 d_X9_need_17 ?_
  refine r_ifnonnull d_X9_need_19 ?_
  refine r_aload_4 d_X9_need_24 ?_
  refine r_aload_0 d_X9_need_26 ?_
  refine r_get d_X9_need_27 s9_odds rfl rfl ?_
  refine w_X9_need_30 hcs2 (fun W2 Hp2 Nx2 hag2 => ?_)
  have eo : sp_ad (fun j => 1000000 * (sp_Wc (kd, n, k, f, lo, hi)).1 j / (sp_Wc (kd, n, k, f, lo, hi)).2) (fun j => 1000000 * W2 j / (sp_Wc (kd2, n2, k2, f2, lo2, hi2)).2) 31 = (sp_need (kd, n, k, f, lo, hi) (kd2, n2, k2, f2, lo2, hi2)) := sp_ad_cg (fun z hz => rfl) (fun z hz => by show 1000000 * W2 z / (sp_Wc (kd2, n2, k2, f2, lo2, hi2)).2 = 1000000 * (sp_Wc (kd2, n2, k2, f2, lo2, hi2)).1 z / (sp_Wc (kd2, n2, k2, f2, lo2, hi2)).2; rw [hag2 z hz])
  refine r_aload_0 d_X9_need_33 ?_
  refine r_get d_X9_need_34 s9_odds rfl rfl ?_
  refine r_aload_0 d_X9_need_37 ?_
  refine r_get d_X9_need_38 s9_otherParts rfl rfl ?_
  refine r_V1v d_X9_need_41 (c_X4_partsInto18 (f := XA 18) ⟨v1, v2⟩ (x_Wle hag2 v3) rfl) rfl rfl rfl ⟨rfl, rfl⟩ (Nat.le_of_ble_eq_true rfl) ?_
  rw [pmO_up (by decide), pmX_18, pmX_O]
  refine r_aload_0 d_X9_need_44 ?_
  refine r_aload_3 d_X9_need_45 ?_
  refine r_V1p d_X9_need_46 (c_X9_offOf (q := (fun j => 1000000 * W2 j / (sp_Wc (kd2, n2, k2, f2, lo2, hi2)).2)) hcs (fun z hz => pm_fc_in (p := fun j => nI (1000000 * W2 j / (sp_Wc (kd2, n2, k2, f2, lo2, hi2)).2)) (f := XA 18) hz) (fun z hz => Nat.div_le_of_le_mul (by rw [Nat.mul_comm]; exact Nat.mul_le_mul_right _ (x_Wle hag2 v3 z hz)))) rfl rfl rfl ⟨rfl, rfl⟩ (Nat.le_of_ble_eq_true rfl) ?_
  rintro v9 h9 ⟨rfl, x9, g9, Y9, rfl⟩
  change pm_V _ _ _ (.int (nI (sp_ad (fun j => 1000000 * (sp_Wc (kd, n, k, f, lo, hi)).1 j / (sp_Wc (kd, n, k, f, lo, hi)).2) (fun j => 1000000 * W2 j / (sp_Wc (kd2, n2, k2, f2, lo2, hi2)).2) 31)) :: _) _ _ _
  rw [eo]
  generalize (sp_need (kd, n, k, f, lo, hi) (kd2, n2, k2, f2, lo2, hi2)) = e9 at a3 ⊢
  refine r_istore_5 d_X9_need_49 (Nat.le_of_ble_eq_true rfl) (fun w hw => by cases hw <;> rfl) ?_
  refine r_iload_5 d_X9_need_51 ?_
  refine r_if_gt d_X9_need_53 (fun c53 => ?_) (fun c53 => ?_)
  · -- taken at 53
    have c53 : 0 < e9 := (nI_ltI (a := 0) (b := e9) (by omega) (by omega)).mp c53
    refine r_push (v := nI 10000000) d_X9_need_59 ?_
    refine r_iload_5 d_X9_need_62 ?_
    refine r_iadd d_X9_need_64 ?_
    rw [nI_add]
    refine r_push (v := nI 1) d_X9_need_65 ?_
    refine r_isub d_X9_need_66 ?_
    rw [pk_sub (a := (10000000 + e9)) (b := 1) (by omega)]
    refine r_iload_5 d_X9_need_67 ?_
    refine r_idiv d_X9_need_69 (nI_ne0 (n := e9) (by omega) (by omega)) ?_
    rw [pk_div (a := ((10000000 + e9) - 1)) (d := e9) (by omega) (by omega) (by omega)]
    refine r_ireturn d_X9_need_70 ⟨_, rfl, rfl⟩ ?_
    first
    | exact ⟨by rw [if_neg (by omega), show 10000000 + e9 - 1 = 9999999 + e9 by omega], _, _, _, rfl, x_l4_s (x_l4_s (fun q _ => rfl)), fun q h7 h8 => (if_neg h7).trans (if_neg h8)⟩
    | exact ⟨by rw [if_pos (by omega)], _, _, _, rfl, x_l4_s (x_l4_s (fun q _ => rfl)), fun q h7 h8 => (if_neg h7).trans (if_neg h8)⟩
  · -- not taken at 53
    have c53 : ¬ 0 < e9 := fun zz9 => c53 ((nI_ltI (a := 0) (b := e9) (by omega) (by omega)).mpr zz9)
    refine r_push d_X9_need_56 ?_
    refine r_ireturn d_X9_need_58 ⟨_, rfl, rfl⟩ ?_
    first
    | exact ⟨by rw [if_neg (by omega), show 10000000 + e9 - 1 = 9999999 + e9 by omega], _, _, _, rfl, x_l4_s (x_l4_s (fun q _ => rfl)), fun q h7 h8 => (if_neg h7).trans (if_neg h8)⟩
    | exact ⟨by rw [if_pos (by omega)], _, _, _, rfl, x_l4_s (x_l4_s (fun q _ => rfl)), fun q h7 h8 => (if_neg h7).trans (if_neg h8)⟩
def x_rz (xi : Nat → Int32) (rz : Nat → Option Nat) : Prop := ∀ r, r < 4 → match rz r with
  | none => xi (3 + r) = -1
  | some z => xi (3 + r) = nI z ∧ z ≤ 64
theorem x_rz_n {xi : Nat → Int32} {rz : Nat → Option Nat} (h : x_rz xi rz) {r : Nat} (hr : r < 4) (e : rz r = none) : xi (3 + r) = -1 := by
  have := h r hr
  rw [e] at this
  exact this
theorem x_rz_s {xi : Nat → Int32} {rz : Nat → Option Nat} (h : x_rz xi rz) {r z : Nat} (hr : r < 4) (e : rz r = some z) : xi (3 + r) = nI z ∧ z ≤ 64 := by
  have := h r hr
  rw [e] at this
  exact this
theorem x_rz_th {xi : Nat → Int32} {rz : Nat → Option Nat} (h : x_rz xi rz) {r : Nat} (hr : r < 4) : decide (0 ≤ xi (3 + r)) = (rz r).isSome := by
  cases e : rz r with
  | none => rw [x_rz_n h hr e]; rfl
  | some z => rw [(x_rz_s h hr e).1]; exact x_th (x_rz_s h hr e).2
def sp_o8 (g : Nat → Nat → Nat) : Nat → Nat
  | 0 => 0
  | f + 1 => sp_o8 g f + sp_old (g f) 6
theorem sp_o8_le (g : Nat → Nat → Nat) : ∀ f, sp_o8 g f ≤ 6 * f
  | 0 => Nat.le_refl _
  | f + 1 => by
    have := sp_o8_le g f
    have := sp_old_le (g f) 6
    show sp_o8 g f + sp_old (g f) 6 ≤ _
    omega
def sp_dg (X : Nat → Nat → Int32) : Nat → Int64 → Int64
  | 0, h => h
  | f + 1, h => sp_df (X (21 + 2 * f)) 6 (sp_dg X f h)
set_option maxRecDepth 10000 in
set_option maxHeartbeats 4000000 in
theorem lp_X9_rowsThere {h : pm_H} {xi : Nat → Int32} {xl : Nat → Int64} {xc : Nat → Option Nat} {XA : Nat → Nat → Int32} {XB : Nat → Nat → Int64} {rz : Nat → Option Nat} (hrz : x_rz xi rz) {F : Option Value → pm_H → Prop} {b : Nat × Nat} (K : pm_V e_X9_rowsThere 30 [some (.ref 1), some (.int (nI (sp_th rz 4))), some (.int (nI 4))] [] (pmX h xi xl xc XA XB) b F) : ∀ (d i : Nat), i + d = 4 → pm_V e_X9_rowsThere 4 [some (.ref 1), some (.int (nI (sp_th rz i))), some (.int (nI i))] [] (pmX h xi xl xc XA XB) b F := by
  intro d
  induction d with
  | zero =>
    intro i hid
    obtain rfl : i = 4 := by omega
    refine r_iload_2 d_X9_rowsThere_4 ?_
    refine r_push (v := nI 4) d_X9_rowsThere_5 ?_
    refine r_icmp_ge d_X9_rowsThere_6 (fun c6 => ?_) (fun c6 => absurd (by decide) c6)
    clear c6
    exact K
  | succ d ih =>
    intro i hid
    have K1 := ih (i + 1) (by omega)
    rw [show sp_th rz (i + 1) = sp_th rz i + pm_bl (rz i).isSome from rfl] at K1
    have hrt := x_rz_th hrz (r := i) (by omega)
    cases hs : (rz i).isSome with
    | true =>
      rw [hs] at K1 hrt
      refine r_iload_2 d_X9_rowsThere_4 ?_
      refine r_push (v := nI 4) d_X9_rowsThere_5 ?_
      refine r_icmp_ge d_X9_rowsThere_6 (fun c6 => ?_) (fun c6 => ?_)
      · -- taken at 6
        have c6 : 4 ≤ i := (nI_leI (a := 4) (b := i) (by omega) (by omega)).mp c6
        exfalso; omega
      · -- not taken at 6
        have c6 : ¬ 4 ≤ i := fun zz9 => c6 ((nI_leI (a := 4) (b := i) (by omega) (by omega)).mpr zz9)
        refine r_aload_0 d_X9_rowsThere_9 ?_
        refine r_get d_X9_rowsThere_10 s9_rows rfl rfl ?_
        refine r_iload_2 d_X9_rowsThere_13 ?_
        refine r_aaldRX0 d_X9_rowsThere_14 rfl (pm_ixN (by omega) (by omega)) ?_
        rw [show x_ra i = some (36 + 2 * i) from if_pos (by omega)]
        change pm_V _ _ _ (.ref (36 + 2 * i) :: _) _ _ _
        refine r_V0 d_X9_rowsThere_15 (c_X0_isThere (xr_o (by omega))) (xr_o (by omega)) rfl rfl ⟨rfl, rfl⟩ (Nat.le_of_ble_eq_true rfl) ?_
        rw [hrt]
        change pm_V _ _ _ (.int (nI 1) :: _) _ _ _
        refine r_if_eq d_X9_rowsThere_18 (fun c18 => absurd c18 (by decide)) (fun c18 => ?_)
        clear c18
        refine r_iinc_1 d_X9_rowsThere_21 (Nat.le_of_ble_eq_true rfl) (fun w hw => by cases hw <;> rfl) ?_
        rw [nI_1]
        refine r_iinc_2 d_X9_rowsThere_24 (Nat.le_of_ble_eq_true rfl) (fun w hw => by cases hw <;> rfl) ?_
        rw [nI_1]
        refine r_goto d_X9_rowsThere_27 ?_
        exact K1
    | false =>
      rw [hs] at K1 hrt
      refine r_iload_2 d_X9_rowsThere_4 ?_
      refine r_push (v := nI 4) d_X9_rowsThere_5 ?_
      refine r_icmp_ge d_X9_rowsThere_6 (fun c6 => ?_) (fun c6 => ?_)
      · -- taken at 6
        have c6 : 4 ≤ i := (nI_leI (a := 4) (b := i) (by omega) (by omega)).mp c6
        exfalso; omega
      · -- not taken at 6
        have c6 : ¬ 4 ≤ i := fun zz9 => c6 ((nI_leI (a := 4) (b := i) (by omega) (by omega)).mpr zz9)
        refine r_aload_0 d_X9_rowsThere_9 ?_
        refine r_get d_X9_rowsThere_10 s9_rows rfl rfl ?_
        refine r_iload_2 d_X9_rowsThere_13 ?_
        refine r_aaldRX0 d_X9_rowsThere_14 rfl (pm_ixN (by omega) (by omega)) ?_
        rw [show x_ra i = some (36 + 2 * i) from if_pos (by omega)]
        change pm_V _ _ _ (.ref (36 + 2 * i) :: _) _ _ _
        refine r_V0 d_X9_rowsThere_15 (c_X0_isThere (xr_o (by omega))) (xr_o (by omega)) rfl rfl ⟨rfl, rfl⟩ (Nat.le_of_ble_eq_true rfl) ?_
        rw [hrt]
        change pm_V _ _ _ (.int (nI 0) :: _) _ _ _
        refine r_if_eq d_X9_rowsThere_18 (fun c18 => ?_) (fun c18 => absurd (by decide) c18)
        clear c18
        refine r_iinc_2 d_X9_rowsThere_24 (Nat.le_of_ble_eq_true rfl) (fun w hw => by cases hw <;> rfl) ?_
        rw [nI_1]
        refine r_goto d_X9_rowsThere_27 ?_
        exact K1
set_option maxRecDepth 10000 in
set_option maxHeartbeats 4000000 in
theorem c_X9_rowsThere {h : pm_H} {xi : Nat → Int32} {xl : Nat → Int64} {xc : Nat → Option Nat} {XA : Nat → Nat → Int32} {XB : Nat → Nat → Int64} {rz : Nat → Option Nat} (hrz : x_rz xi rz) : pm_Cv e_X9_rowsThere [.ref 1] (pmX h xi xl xc XA XB) (.int (nI (sp_th rz 4))) (pmX h xi xl xc XA XB) := by
  refine pm_enter rfl (Nat.le_of_ble_eq_true rfl) ?_
  show pm_V e_X9_rowsThere 0 [some (.ref 1), none, none] [] (pmX h xi xl xc XA XB) (0, 0) _
  refine r_push (v := nI 0) d_X9_rowsThere_0 ?_
  refine r_istore_1 d_X9_rowsThere_1 (Nat.le_of_ble_eq_true rfl) (fun w hw => by cases hw <;> rfl) ?_
  refine r_push (v := nI 0) d_X9_rowsThere_2 ?_
  refine r_istore_2 d_X9_rowsThere_3 (Nat.le_of_ble_eq_true rfl) (fun w hw => by cases hw <;> rfl) ?_
  exact lp_X9_rowsThere hrz (r_iload_1 d_X9_rowsThere_30 (r_ireturn d_X9_rowsThere_31 ⟨_, rfl, rfl⟩ ⟨rfl, rfl⟩)) 4 0 (by omega)
set_option maxRecDepth 10000 in
set_option maxHeartbeats 4000000 in
theorem lp_X9_oldLinesOfAll {h : pm_H} {xi : Nat → Int32} {xl : Nat → Int64} {xc : Nat → Option Nat} {XA : Nat → Nat → Int32} {XB : Nat → Nat → Int64} {g : Nat → Nat → Nat} (hg : ∀ f, f < 8 → ∀ j, j < 6 → XA (21 + 2 * f) j = nI (g f j) ∧ 6 ≤ g f j ∧ g f j ≤ 9) {F : Option Value → pm_H → Prop} {b : Nat × Nat} (K : pm_V e_X9_oldLinesOfAll 28 [some (.ref 1), some (.int (nI (sp_o8 g 8))), some (.int (nI 8))] [] (pmX h xi xl xc XA XB) b F) : ∀ (d i : Nat), i + d = 8 → pm_V e_X9_oldLinesOfAll 4 [some (.ref 1), some (.int (nI (sp_o8 g i))), some (.int (nI i))] [] (pmX h xi xl xc XA XB) b F := by
  intro d
  induction d with
  | zero =>
    intro i hid
    obtain rfl : i = 8 := by omega
    refine r_iload_2 d_X9_oldLinesOfAll_4 ?_
    refine r_push (v := nI 8) d_X9_oldLinesOfAll_5 ?_
    refine r_icmp_ge d_X9_oldLinesOfAll_7 (fun c7 => ?_) (fun c7 => absurd (by decide) c7)
    clear c7
    exact K
  | succ d ih =>
    intro i hid
    have hg1 := hg i (by omega)
    refine r_iload_2 d_X9_oldLinesOfAll_4 ?_
    refine r_push (v := nI 8) d_X9_oldLinesOfAll_5 ?_
    refine r_icmp_ge d_X9_oldLinesOfAll_7 (fun c7 => ?_) (fun c7 => ?_)
    · -- taken at 7
      have c7 : 8 ≤ i := (nI_leI (a := 8) (b := i) (by omega) (by omega)).mp c7
      exfalso; omega
    · -- not taken at 7
      have c7 : ¬ 8 ≤ i := fun zz9 => c7 ((nI_leI (a := 8) (b := i) (by omega) (by omega)).mpr zz9)
      refine r_iload_1 d_X9_oldLinesOfAll_10 ?_
      refine r_aload_0 d_X9_oldLinesOfAll_11 ?_
      refine r_get d_X9_oldLinesOfAll_12 s9_figures rfl rfl ?_
      refine r_iload_2 d_X9_oldLinesOfAll_15 ?_
      refine r_aaldRX3 d_X9_oldLinesOfAll_16 rfl (pm_ixN (by omega) (by omega)) ?_
      rw [show x_fa i = some (20 + 2 * i) from if_pos (by omega)]
      change pm_V _ _ _ (.ref (20 + 2 * i) :: _) _ _ _
      refine r_V0 d_X9_oldLinesOfAll_17 (c_X3_oldLines (xf_o (by omega)) (xf_l (by omega)) (fun j hj => (hg1 j hj).1) (fun j hj => by have := (hg1 j hj).2.2; omega)) (xf_o (by omega)) rfl rfl ⟨rfl, rfl⟩ (Nat.le_of_ble_eq_true rfl) ?_
      refine r_iadd d_X9_oldLinesOfAll_20 ?_
      rw [nI_add]
      refine r_istore_1 d_X9_oldLinesOfAll_21 (Nat.le_of_ble_eq_true rfl) (fun w hw => by cases hw <;> rfl) ?_
      refine r_iinc_2 d_X9_oldLinesOfAll_22 (Nat.le_of_ble_eq_true rfl) (fun w hw => by cases hw <;> rfl) ?_
      rw [nI_1]
      refine r_goto d_X9_oldLinesOfAll_25 ?_
      exact ih (i + 1) (by omega)
set_option maxRecDepth 10000 in
set_option maxHeartbeats 4000000 in
theorem c_X9_oldLinesOfAll {h : pm_H} {xi : Nat → Int32} {xl : Nat → Int64} {xc : Nat → Option Nat} {XA : Nat → Nat → Int32} {XB : Nat → Nat → Int64} {g : Nat → Nat → Nat} (hg : ∀ f, f < 8 → ∀ j, j < 6 → XA (21 + 2 * f) j = nI (g f j) ∧ 6 ≤ g f j ∧ g f j ≤ 9) : pm_Cv e_X9_oldLinesOfAll [.ref 1] (pmX h xi xl xc XA XB) (.int (nI (sp_o8 g 8))) (pmX h xi xl xc XA XB) := by
  refine pm_enter rfl (Nat.le_of_ble_eq_true rfl) ?_
  show pm_V e_X9_oldLinesOfAll 0 [some (.ref 1), none, none] [] (pmX h xi xl xc XA XB) (0, 0) _
  refine r_push (v := nI 0) d_X9_oldLinesOfAll_0 ?_
  refine r_istore_1 d_X9_oldLinesOfAll_1 (Nat.le_of_ble_eq_true rfl) (fun w hw => by cases hw <;> rfl) ?_
  refine r_push (v := nI 0) d_X9_oldLinesOfAll_2 ?_
  refine r_istore_2 d_X9_oldLinesOfAll_3 (Nat.le_of_ble_eq_true rfl) (fun w hw => by cases hw <;> rfl) ?_
  exact lp_X9_oldLinesOfAll hg (r_iload_1 d_X9_oldLinesOfAll_28 (r_ireturn d_X9_oldLinesOfAll_29 ⟨_, rfl, rfl⟩ ⟨rfl, rfl⟩)) 8 0 (by omega)
set_option maxRecDepth 10000 in
set_option maxHeartbeats 4000000 in
theorem c_X9_count0 {h : pm_H} {xi : Nat → Int32} {xl : Nat → Int64} {xc : Nat → Option Nat} {XA : Nat → Nat → Int32} {XB : Nat → Nat → Int64}  : pm_Cv e_X9_count [.ref 1, .int (nI 0)] (pmX h xi xl xc XA XB) (.int (xi 0)) (pmX h xi xl xc XA XB) := by
  refine pm_enter rfl (Nat.le_of_ble_eq_true rfl) ?_
  show pm_V e_X9_count 0 [some (.ref 1), some (.int (nI 0))] [] (pmX h xi xl xc XA XB) (0, 0) _
  refine r_iload_1 d_X9_count_0 ?_
  refine r_sw3 (a0 := 0) (a1 := 1) (a2 := 2) d_X9_count_1 rfl rfl rfl (fun c1 => ?_) (fun c1 => ?_) (fun c1 => ?_) (fun c1a c1b c1c => ?_)
  · -- place 0 at 1
    refine r_aload_0 d_X9_count_28 ?_
    refine r_get d_X9_count_29 s9_casterCount rfl rfl ?_
    refine r_ireturn d_X9_count_32 ⟨_, rfl, rfl⟩ ?_
    exact ⟨rfl, rfl⟩
  · -- place 1 at 1
    exfalso
    revert c1
    decide
  · -- place 2 at 1
    exfalso
    revert c1
    decide
  · -- the rest at 1
    exact absurd rfl c1a
set_option maxRecDepth 10000 in
set_option maxHeartbeats 4000000 in
theorem c_X9_count1 {h : pm_H} {xi : Nat → Int32} {xl : Nat → Int64} {xc : Nat → Option Nat} {XA : Nat → Nat → Int32} {XB : Nat → Nat → Int64} {rz : Nat → Option Nat} (hrz : x_rz xi rz) : pm_Cv e_X9_count [.ref 1, .int (nI 1)] (pmX h xi xl xc XA XB) (.int (nI (sp_th rz 4))) (pmX h xi xl xc XA XB) := by
  refine pm_enter rfl (Nat.le_of_ble_eq_true rfl) ?_
  show pm_V e_X9_count 0 [some (.ref 1), some (.int (nI 1))] [] (pmX h xi xl xc XA XB) (0, 0) _
  refine r_iload_1 d_X9_count_0 ?_
  refine r_sw3 (a0 := 0) (a1 := 1) (a2 := 2) d_X9_count_1 rfl rfl rfl (fun c1 => ?_) (fun c1 => ?_) (fun c1 => ?_) (fun c1a c1b c1c => ?_)
  · -- place 0 at 1
    exfalso
    revert c1
    decide
  · -- place 1 at 1
    refine r_aload_0 d_X9_count_33 ?_
    refine r_V0 d_X9_count_34 (c_X9_rowsThere hrz) rfl rfl rfl ⟨rfl, rfl⟩ (Nat.le_of_ble_eq_true rfl) ?_
    refine r_ireturn d_X9_count_37 ⟨_, rfl, rfl⟩ ?_
    exact ⟨rfl, rfl⟩
  · -- place 2 at 1
    exfalso
    revert c1
    decide
  · -- the rest at 1
    exact absurd rfl c1b
set_option maxRecDepth 10000 in
set_option maxHeartbeats 4000000 in
theorem c_X9_count2 {h : pm_H} {xi : Nat → Int32} {xl : Nat → Int64} {xc : Nat → Option Nat} {XA : Nat → Nat → Int32} {XB : Nat → Nat → Int64} {g : Nat → Nat → Nat} (hg : ∀ f, f < 8 → ∀ j, j < 6 → XA (21 + 2 * f) j = nI (g f j) ∧ 6 ≤ g f j ∧ g f j ≤ 9) : pm_Cv e_X9_count [.ref 1, .int (nI 2)] (pmX h xi xl xc XA XB) (.int (nI (sp_o8 g 8))) (pmX h xi xl xc XA XB) := by
  refine pm_enter rfl (Nat.le_of_ble_eq_true rfl) ?_
  show pm_V e_X9_count 0 [some (.ref 1), some (.int (nI 2))] [] (pmX h xi xl xc XA XB) (0, 0) _
  refine r_iload_1 d_X9_count_0 ?_
  refine r_sw3 (a0 := 0) (a1 := 1) (a2 := 2) d_X9_count_1 rfl rfl rfl (fun c1 => ?_) (fun c1 => ?_) (fun c1 => ?_) (fun c1a c1b c1c => ?_)
  · -- place 0 at 1
    exfalso
    revert c1
    decide
  · -- place 1 at 1
    exfalso
    revert c1
    decide
  · -- place 2 at 1
    refine r_aload_0 d_X9_count_38 ?_
    refine r_V0 d_X9_count_39 (c_X9_oldLinesOfAll hg) rfl rfl rfl ⟨rfl, rfl⟩ (Nat.le_of_ble_eq_true rfl) ?_
    refine r_ireturn d_X9_count_42 ⟨_, rfl, rfl⟩ ?_
    exact ⟨rfl, rfl⟩
  · -- the rest at 1
    exact absurd rfl c1c
set_option maxRecDepth 10000 in
set_option maxHeartbeats 4000000 in
theorem c_X9_count3 {h : pm_H} {xi : Nat → Int32} {xl : Nat → Int64} {xc : Nat → Option Nat} {XA : Nat → Nat → Int32} {XB : Nat → Nat → Int64} {w : Int32} (h0 : w ≠ 0) (h1 : w ≠ 1) (h2 : w ≠ 2) : pm_Cv e_X9_count [.ref 1, .int w] (pmX h xi xl xc XA XB) (.int (-1)) (pmX h xi xl xc XA XB) := by
  refine pm_enter rfl (Nat.le_of_ble_eq_true rfl) ?_
  show pm_V e_X9_count 0 [some (.ref 1), some (.int w)] [] (pmX h xi xl xc XA XB) (0, 0) _
  refine r_iload_1 d_X9_count_0 ?_
  refine r_sw3 (a0 := 0) (a1 := 1) (a2 := 2) d_X9_count_1 rfl rfl rfl (fun c1 => ?_) (fun c1 => ?_) (fun c1 => ?_) (fun c1a c1b c1c => ?_)
  · -- place 0 at 1
    exact absurd c1 h0
  · -- place 1 at 1
    exact absurd c1 h1
  · -- place 2 at 1
    exact absurd c1 h2
  · -- the rest at 1
    refine r_push d_X9_count_43 ?_
    refine r_ireturn d_X9_count_44 ⟨_, rfl, rfl⟩ ?_
    exact ⟨rfl, rfl⟩
