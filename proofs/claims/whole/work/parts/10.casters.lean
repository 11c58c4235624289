set_option maxRecDepth 10000 in
theorem c_X6_rest {h : pm_H} {a n k f lo hi : Nat} {x : Nat} (ht : pm_sk h a n k f lo hi) (ok : pm_ok n k f lo hi) (hx : x ≤ 60) : pm_Cv e_X6_rest [.ref a, .int (nI x)] h (.int (nI (sp_rest k x))) h := by
  obtain ⟨g1, g2, g3, g4, g5, g6, g7, g8⟩ := ok
  have hm := Nat.mod_lt x (show 0 < k by omega)
  rcases ht with ⟨ht, -⟩ | ht
  ·
    refine pm_enter rfl (Nat.le_of_ble_eq_true rfl) ?_
    show pm_V e_X6_rest 0 [some (.ref a), some (.int (nI x)), none] [] h (0, 0) _
    refine r_iload_1 d_X6_rest_0 ?_
    refine r_push (v := nI 1) d_X6_rest_1 ?_
    refine r_icmp_lt d_X6_rest_2 (fun c2 => ?_) (fun c2 => ?_)
    · -- taken at 2
      have c2 : x < 1 := (nI_ltI (a := x) (b := 1) (by omega) (by omega)).mp c2
      refine r_push (v := nI 0) d_X6_rest_13 ?_
      refine r_ireturn d_X6_rest_14 ⟨_, rfl, rfl⟩ ?_
      exact ⟨congrArg (fun z => some (Value.int (nI z))) (by unfold sp_rest; split <;> (try split) <;> omega), rfl⟩
    · -- not taken at 2
      have c2 : ¬ x < 1 := fun zz9 => c2 ((nI_ltI (a := x) (b := 1) (by omega) (by omega)).mpr zz9)
      refine r_aload_0 d_X6_rest_5 ?_
      refine r_get d_X6_rest_6 s6_by ht rfl ?_
      refine r_push (v := nI 1) d_X6_rest_9 ?_
      refine r_icmp_ge d_X6_rest_10 (fun c10 => ?_) (fun c10 => ?_)
      · -- taken at 10
        have c10 : 1 ≤ k := (nI_leI (a := 1) (b := k) (by omega) (by omega)).mp c10
        refine r_iload_1 d_X6_rest_15 ?_
        refine r_aload_0 d_X6_rest_16 ?_
        refine r_get d_X6_rest_17 s6_by ht rfl ?_
        refine r_irem d_X6_rest_20 (nI_ne0 (n := k) (by omega) (by omega)) ?_
        rw [pk_rem (a := x) (d := k) (by omega) (by omega) (by omega)]
        refine r_istore_2 d_X6_rest_21 (Nat.le_of_ble_eq_true rfl) (fun w hw => by cases hw <;> rfl) ?_
        refine r_iload_2 d_X6_rest_22 ?_
        refine r_if_ne d_X6_rest_23 (fun c23 => ?_) (fun c23 => ?_)
        · -- taken at 23
          have c23 : ¬ (x % k) = 0 := fun zz9 => c23 ((nI_eq (a := (x % k)) (b := 0) (by omega) (by omega)).mpr zz9)
          refine r_iload_2 d_X6_rest_33 ?_
          refine r_ireturn d_X6_rest_34 ⟨_, rfl, rfl⟩ ?_
          exact ⟨congrArg (fun z => some (Value.int (nI z))) (by unfold sp_rest; split <;> (try split) <;> omega), rfl⟩
        · -- not taken at 23
          have c23 : (x % k) = 0 := (nI_eq (a := (x % k)) (b := 0) (by omega) (by omega)).mp c23
          refine r_aload_0 d_X6_rest_26 ?_
          refine r_get d_X6_rest_27 s6_by ht rfl ?_
          refine r_goto d_X6_rest_30 ?_
          refine r_ireturn d_X6_rest_34 ⟨_, rfl, rfl⟩ ?_
          exact ⟨congrArg (fun z => some (Value.int (nI z))) (by unfold sp_rest; split <;> (try split) <;> omega), rfl⟩
      · -- not taken at 10
        have c10 : ¬ 1 ≤ k := fun zz9 => c10 ((nI_leI (a := 1) (b := k) (by omega) (by omega)).mpr zz9)
        refine r_push (v := nI 0) d_X6_rest_13 ?_
        refine r_ireturn d_X6_rest_14 ⟨_, rfl, rfl⟩ ?_
        exact ⟨congrArg (fun z => some (Value.int (nI z))) (by unfold sp_rest; split <;> (try split) <;> omega), rfl⟩
  ·
    refine pm_enter rfl (Nat.le_of_ble_eq_true rfl) ?_
    show pm_V e_X6_rest 0 [some (.ref a), some (.int (nI x)), none] [] h (0, 0) _
    refine r_iload_1 d_X6_rest_0 ?_
    refine r_push (v := nI 1) d_X6_rest_1 ?_
    refine r_icmp_lt d_X6_rest_2 (fun c2 => ?_) (fun c2 => ?_)
    · -- taken at 2
      have c2 : x < 1 := (nI_ltI (a := x) (b := 1) (by omega) (by omega)).mp c2
      refine r_push (v := nI 0) d_X6_rest_13 ?_
      refine r_ireturn d_X6_rest_14 ⟨_, rfl, rfl⟩ ?_
      exact ⟨congrArg (fun z => some (Value.int (nI z))) (by unfold sp_rest; split <;> (try split) <;> omega), rfl⟩
    · -- not taken at 2
      have c2 : ¬ x < 1 := fun zz9 => c2 ((nI_ltI (a := x) (b := 1) (by omega) (by omega)).mpr zz9)
      refine r_aload_0 d_X6_rest_5 ?_
      refine r_get d_X6_rest_6 s7_by ht rfl ?_
      refine r_push (v := nI 1) d_X6_rest_9 ?_
      refine r_icmp_ge d_X6_rest_10 (fun c10 => ?_) (fun c10 => ?_)
      · -- taken at 10
        have c10 : 1 ≤ k := (nI_leI (a := 1) (b := k) (by omega) (by omega)).mp c10
        refine r_iload_1 d_X6_rest_15 ?_
        refine r_aload_0 d_X6_rest_16 ?_
        refine r_get d_X6_rest_17 s7_by ht rfl ?_
        refine r_irem d_X6_rest_20 (nI_ne0 (n := k) (by omega) (by omega)) ?_
        rw [pk_rem (a := x) (d := k) (by omega) (by omega) (by omega)]
        refine r_istore_2 d_X6_rest_21 (Nat.le_of_ble_eq_true rfl) (fun w hw => by cases hw <;> rfl) ?_
        refine r_iload_2 d_X6_rest_22 ?_
        refine r_if_ne d_X6_rest_23 (fun c23 => ?_) (fun c23 => ?_)
        · -- taken at 23
          have c23 : ¬ (x % k) = 0 := fun zz9 => c23 ((nI_eq (a := (x % k)) (b := 0) (by omega) (by omega)).mpr zz9)
          refine r_iload_2 d_X6_rest_33 ?_
          refine r_ireturn d_X6_rest_34 ⟨_, rfl, rfl⟩ ?_
          exact ⟨congrArg (fun z => some (Value.int (nI z))) (by unfold sp_rest; split <;> (try split) <;> omega), rfl⟩
        · -- not taken at 23
          have c23 : (x % k) = 0 := (nI_eq (a := (x % k)) (b := 0) (by omega) (by omega)).mp c23
          refine r_aload_0 d_X6_rest_26 ?_
          refine r_get d_X6_rest_27 s7_by ht rfl ?_
          refine r_goto d_X6_rest_30 ?_
          refine r_ireturn d_X6_rest_34 ⟨_, rfl, rfl⟩ ?_
          exact ⟨congrArg (fun z => some (Value.int (nI z))) (by unfold sp_rest; split <;> (try split) <;> omega), rfl⟩
      · -- not taken at 10
        have c10 : ¬ 1 ≤ k := fun zz9 => c10 ((nI_leI (a := 1) (b := k) (by omega) (by omega)).mpr zz9)
        refine r_push (v := nI 0) d_X6_rest_13 ?_
        refine r_ireturn d_X6_rest_14 ⟨_, rfl, rfl⟩ ?_
        exact ⟨congrArg (fun z => some (Value.int (nI z))) (by unfold sp_rest; split <;> (try split) <;> omega), rfl⟩
set_option maxRecDepth 10000 in
theorem c_X6_firstPlace {h : pm_H} {a n0 : Nat} (hn : 2 ≤ n0 ∧ n0 ≤ 60) : pm_Cv e_X6_firstPlace [.ref a, .int (nI n0)] h (.int (nI (1))) h := by
  refine pm_enter rfl (Nat.le_of_ble_eq_true rfl) ?_
  show pm_V e_X6_firstPlace 0 [some (.ref a), some (.int (nI n0))] [] h (0, 0) _
  refine r_push (v := nI 1) d_X6_firstPlace_0 ?_
  refine r_ireturn d_X6_firstPlace_1 ⟨_, rfl, rfl⟩ ?_
  exact ⟨rfl, rfl⟩
set_option maxRecDepth 10000 in
theorem c_X6_lastPlace {h : pm_H} {a n0 : Nat} (hn : 2 ≤ n0 ∧ n0 ≤ 60) : pm_Cv e_X6_lastPlace [.ref a, .int (nI n0)] h (.int (nI (n0 - 1))) h := by
  refine pm_enter rfl (Nat.le_of_ble_eq_true rfl) ?_
  show pm_V e_X6_lastPlace 0 [some (.ref a), some (.int (nI n0))] [] h (0, 0) _
  refine r_iload_1 d_X6_lastPlace_0 ?_
  refine r_push (v := nI 1) d_X6_lastPlace_1 ?_
  refine r_isub d_X6_lastPlace_2 ?_
  rw [pk_sub (a := n0) (b := 1) (by omega)]
  refine r_ireturn d_X6_lastPlace_3 ⟨_, rfl, rfl⟩ ?_
  exact ⟨rfl, rfl⟩
set_option maxRecDepth 10000 in
theorem c_X7_firstPlace {h : pm_H} {a n k f lo hi n0 : Nat} (ht : h.2 a = some (.inr (7, [.int (nI n), .int (nI k), .int (nI f), .int (nI lo), .int (nI hi)]))) (ok : pm_ok n k f lo hi) (hn : 2 ≤ n0 ∧ n0 ≤ 60) : pm_Cv e_X7_firstPlace [.ref a, .int (nI n0)] h (.int (nI (sp_first lo n0))) h := by
  obtain ⟨g1, g2, g3, g4, g5, g6, g7, g8⟩ := ok
  refine pm_enter rfl (Nat.le_of_ble_eq_true rfl) ?_
  show pm_V e_X7_firstPlace 0 [some (.ref a), some (.int (nI n0))] [] h (0, 0) _
  refine r_aload_0 d_X7_firstPlace_0 ?_
  refine r_get d_X7_firstPlace_1 s7_lo ht rfl ?_
  refine r_iload_1 d_X7_firstPlace_4 ?_
  refine r_icmp_ge d_X7_firstPlace_5 (fun c5 => ?_) (fun c5 => ?_)
  · -- taken at 5
    have c5 : n0 ≤ lo := (nI_leI (a := n0) (b := lo) (by omega) (by omega)).mp c5
    refine r_iload_1 d_X7_firstPlace_15 ?_
    refine r_push (v := nI 1) d_X7_firstPlace_16 ?_
    refine r_isub d_X7_firstPlace_17 ?_
    rw [pk_sub (a := n0) (b := 1) (by omega)]
    refine r_ireturn d_X7_firstPlace_18 ⟨_, rfl, rfl⟩ ?_
    exact ⟨congrArg (fun z => some (Value.int (nI z))) (by unfold sp_first; split <;> omega), rfl⟩
  · -- not taken at 5
    have c5 : ¬ n0 ≤ lo := fun zz9 => c5 ((nI_leI (a := n0) (b := lo) (by omega) (by omega)).mpr zz9)
    refine r_aload_0 d_X7_firstPlace_8 ?_
    refine r_get d_X7_firstPlace_9 s7_lo ht rfl ?_
    refine r_goto d_X7_firstPlace_12 ?_
    refine r_ireturn d_X7_firstPlace_18 ⟨_, rfl, rfl⟩ ?_
    exact ⟨congrArg (fun z => some (Value.int (nI z))) (by unfold sp_first; split <;> omega), rfl⟩
set_option maxRecDepth 10000 in
theorem c_X7_lastPlace {h : pm_H} {a n k f lo hi n0 : Nat} (ht : h.2 a = some (.inr (7, [.int (nI n), .int (nI k), .int (nI f), .int (nI lo), .int (nI hi)]))) (ok : pm_ok n k f lo hi) (hn : 2 ≤ n0 ∧ n0 ≤ 60) : pm_Cv e_X7_lastPlace [.ref a, .int (nI n0)] h (.int (nI (sp_last hi n0))) h := by
  obtain ⟨g1, g2, g3, g4, g5, g6, g7, g8⟩ := ok
  refine pm_enter rfl (Nat.le_of_ble_eq_true rfl) ?_
  show pm_V e_X7_lastPlace 0 [some (.ref a), some (.int (nI n0))] [] h (0, 0) _
  refine r_aload_0 d_X7_lastPlace_0 ?_
  refine r_get d_X7_lastPlace_1 s7_hi ht rfl ?_
  refine r_iload_1 d_X7_lastPlace_4 ?_
  refine r_icmp_ge d_X7_lastPlace_5 (fun c5 => ?_) (fun c5 => ?_)
  · -- taken at 5
    have c5 : n0 ≤ hi := (nI_leI (a := n0) (b := hi) (by omega) (by omega)).mp c5
    refine r_iload_1 d_X7_lastPlace_15 ?_
    refine r_push (v := nI 1) d_X7_lastPlace_16 ?_
    refine r_isub d_X7_lastPlace_17 ?_
    rw [pk_sub (a := n0) (b := 1) (by omega)]
    refine r_ireturn d_X7_lastPlace_18 ⟨_, rfl, rfl⟩ ?_
    exact ⟨congrArg (fun z => some (Value.int (nI z))) (by unfold sp_last; split <;> omega), rfl⟩
  · -- not taken at 5
    have c5 : ¬ n0 ≤ hi := fun zz9 => c5 ((nI_leI (a := n0) (b := hi) (by omega) (by omega)).mpr zz9)
    refine r_aload_0 d_X7_lastPlace_8 ?_
    refine r_get d_X7_lastPlace_9 s7_hi ht rfl ?_
    refine r_goto d_X7_lastPlace_12 ?_
    refine r_ireturn d_X7_lastPlace_18 ⟨_, rfl, rfl⟩ ?_
    exact ⟨congrArg (fun z => some (Value.int (nI z))) (by unfold sp_last; split <;> omega), rfl⟩
set_option maxRecDepth 10000 in
theorem c_X6_placesOf {h : pm_H} {a n k f lo hi : Nat} {n0 : Nat} (ht : pm_sk h a n k f lo hi) (ok : pm_ok n k f lo hi) (hn : 2 ≤ n0 ∧ n0 ≤ 60) : pm_Cv e_X6_placesOf [.ref a, .int (nI n0)] h (.int (nI (sp_places lo hi n0))) h := by
  have ok0 := ok
  obtain ⟨g1, g2, g3, g4, g5, g6, g7, g8⟩ := ok
  have hl1 := sp_first_in (lo := lo) hn.1 g6
  have hl2 := sp_last_in (hi := hi) hn.1 (by omega)
  have hl3 := sp_fl (n := n0) g7
  rcases ht with ⟨ht, rfl, rfl⟩ | ht
  ·
    refine pm_enter rfl (Nat.le_of_ble_eq_true rfl) ?_
    show pm_V e_X6_placesOf 0 [some (.ref a), some (.int (nI n0))] [] h (0, 0) _
    have e1 : sp_first 1 n0 = 1 := by unfold sp_first; split <;> omega
    have e2 : sp_last 59 n0 = n0 - 1 := by unfold sp_last; split <;> omega
    refine r_aload_0 d_X6_placesOf_0 ?_
    refine r_iload_1 d_X6_placesOf_1 ?_
    refine r_V1 d_X6_placesOf_2_6 (c_X6_lastPlace hn) ht rfl rfl ⟨rfl, rfl⟩ (Nat.le_of_ble_eq_true rfl) ?_
    refine r_aload_0 d_X6_placesOf_5 ?_
    refine r_iload_1 d_X6_placesOf_6 ?_
    refine r_V1 d_X6_placesOf_7_6 (c_X6_firstPlace hn) ht rfl rfl ⟨rfl, rfl⟩ (Nat.le_of_ble_eq_true rfl) ?_
    refine r_isub d_X6_placesOf_10 ?_
    rw [pk_sub (a := (n0 - 1)) (b := 1) (by omega)]
    refine r_push (v := nI 1) d_X6_placesOf_11 ?_
    refine r_iadd d_X6_placesOf_12 ?_
    rw [nI_add]
    refine r_ireturn d_X6_placesOf_13 ⟨_, rfl, rfl⟩ ?_
    exact ⟨by unfold sp_places; rw [e1, e2], rfl⟩
  ·
    refine pm_enter rfl (Nat.le_of_ble_eq_true rfl) ?_
    show pm_V e_X6_placesOf 0 [some (.ref a), some (.int (nI n0))] [] h (0, 0) _
    refine r_aload_0 d_X6_placesOf_0 ?_
    refine r_iload_1 d_X6_placesOf_1 ?_
    refine r_V1 d_X6_placesOf_2_7 (c_X7_lastPlace ht ok0 hn) ht rfl rfl ⟨rfl, rfl⟩ (Nat.le_of_ble_eq_true rfl) ?_
    refine r_aload_0 d_X6_placesOf_5 ?_
    refine r_iload_1 d_X6_placesOf_6 ?_
    refine r_V1 d_X6_placesOf_7_7 (c_X7_firstPlace ht ok0 hn) ht rfl rfl ⟨rfl, rfl⟩ (Nat.le_of_ble_eq_true rfl) ?_
    refine r_isub d_X6_placesOf_10 ?_
    rw [pk_sub (a := (sp_last hi n0)) (b := (sp_first lo n0)) (by omega)]
    refine r_push (v := nI 1) d_X6_placesOf_11 ?_
    refine r_iadd d_X6_placesOf_12 ?_
    rw [nI_add]
    refine r_ireturn d_X6_placesOf_13 ⟨_, rfl, rfl⟩ ?_
    exact ⟨by unfold sp_places; rfl, rfl⟩
set_option maxRecDepth 10000 in
theorem c_X6_placesAtFirst {h : pm_H} {a n k f lo hi : Nat} (ht : pm_sk h a n k f lo hi) (ok : pm_ok n k f lo hi) : pm_Cv e_X6_placesAtFirst [.ref a] h (.int (nI (sp_places lo hi n))) h := by
  have hs := ht
  have g := ok
  obtain ⟨g1, g2, g3, g4, g5, g6, g7, g8⟩ := ok
  rcases ht with ⟨ht, e1, e2⟩ | ht
  ·
    refine pm_enter rfl (Nat.le_of_ble_eq_true rfl) ?_
    show pm_V e_X6_placesAtFirst 0 [some (.ref a)] [] h (0, 0) _
    refine r_aload_0 d_X6_placesAtFirst_0 ?_
    refine r_aload_0 d_X6_placesAtFirst_1 ?_
    refine r_get d_X6_placesAtFirst_2 s6_bundle ht rfl ?_
    refine r_V1 d_X6_placesAtFirst_5_6 (c_X6_placesOf hs g ⟨by omega, g2⟩) ht rfl rfl ⟨rfl, rfl⟩ (Nat.le_of_ble_eq_true rfl) ?_
    refine r_ireturn d_X6_placesAtFirst_8 ⟨_, rfl, rfl⟩ ?_
    exact ⟨rfl, rfl⟩
  ·
    refine pm_enter rfl (Nat.le_of_ble_eq_true rfl) ?_
    show pm_V e_X6_placesAtFirst 0 [some (.ref a)] [] h (0, 0) _
    refine r_aload_0 d_X6_placesAtFirst_0 ?_
    refine r_aload_0 d_X6_placesAtFirst_1 ?_
    refine r_get d_X6_placesAtFirst_2 s7_bundle ht rfl ?_
    refine r_V1 d_X6_placesAtFirst_5_7 (c_X6_placesOf hs g ⟨by omega, g2⟩) ht rfl rfl ⟨rfl, rfl⟩ (Nat.le_of_ble_eq_true rfl) ?_
    refine r_ireturn d_X6_placesAtFirst_8 ⟨_, rfl, rfl⟩ ?_
    exact ⟨rfl, rfl⟩
set_option maxRecDepth 10000 in
theorem c_X6_lineOf {h : pm_H} {a n k f lo hi : Nat} {x : Nat} (ht : pm_sk h a n k f lo hi) (ok : pm_ok n k f lo hi) (hx : x ≤ 60) : pm_Cv e_X6_lineOf [.ref a, .int (nI x)] h (.int (nI (x / k))) h := by
  obtain ⟨g1, g2, g3, g4, g5, g6, g7, g8⟩ := ok
  rcases ht with ⟨ht, -⟩ | ht
  ·
    refine pm_enter rfl (Nat.le_of_ble_eq_true rfl) ?_
    show pm_V e_X6_lineOf 0 [some (.ref a), some (.int (nI x))] [] h (0, 0) _
    refine r_aload_0 d_X6_lineOf_0 ?_
    refine r_get d_X6_lineOf_1 s6_by ht rfl ?_
    refine r_push (v := nI 1) d_X6_lineOf_4 ?_
    refine r_icmp_ge d_X6_lineOf_5 (fun c5 => ?_) (fun c5 => ?_)
    · -- taken at 5
      have c5 : 1 ≤ k := (nI_leI (a := 1) (b := k) (by omega) (by omega)).mp c5
      refine r_iload_1 d_X6_lineOf_12 ?_
      refine r_aload_0 d_X6_lineOf_13 ?_
      refine r_get d_X6_lineOf_14 s6_by ht rfl ?_
      refine r_idiv d_X6_lineOf_17 (nI_ne0 (n := k) (by omega) (by omega)) ?_
      rw [pk_div (a := x) (d := k) (by omega) (by omega) (by omega)]
      refine r_ireturn d_X6_lineOf_18 ⟨_, rfl, rfl⟩ ?_
      first | exact ⟨rfl, rfl⟩ | (exfalso; omega)
    · -- not taken at 5
      have c5 : ¬ 1 ≤ k := fun zz9 => c5 ((nI_leI (a := 1) (b := k) (by omega) (by omega)).mpr zz9)
      refine r_push (v := nI 0) d_X6_lineOf_8 ?_
      refine r_goto d_X6_lineOf_9 ?_
      refine r_ireturn d_X6_lineOf_18 ⟨_, rfl, rfl⟩ ?_
      first | exact ⟨rfl, rfl⟩ | (exfalso; omega)
  ·
    refine pm_enter rfl (Nat.le_of_ble_eq_true rfl) ?_
    show pm_V e_X6_lineOf 0 [some (.ref a), some (.int (nI x))] [] h (0, 0) _
    refine r_aload_0 d_X6_lineOf_0 ?_
    refine r_get d_X6_lineOf_1 s7_by ht rfl ?_
    refine r_push (v := nI 1) d_X6_lineOf_4 ?_
    refine r_icmp_ge d_X6_lineOf_5 (fun c5 => ?_) (fun c5 => ?_)
    · -- taken at 5
      have c5 : 1 ≤ k := (nI_leI (a := 1) (b := k) (by omega) (by omega)).mp c5
      refine r_iload_1 d_X6_lineOf_12 ?_
      refine r_aload_0 d_X6_lineOf_13 ?_
      refine r_get d_X6_lineOf_14 s7_by ht rfl ?_
      refine r_idiv d_X6_lineOf_17 (nI_ne0 (n := k) (by omega) (by omega)) ?_
      rw [pk_div (a := x) (d := k) (by omega) (by omega) (by omega)]
      refine r_ireturn d_X6_lineOf_18 ⟨_, rfl, rfl⟩ ?_
      first | exact ⟨rfl, rfl⟩ | (exfalso; omega)
    · -- not taken at 5
      have c5 : ¬ 1 ≤ k := fun zz9 => c5 ((nI_leI (a := 1) (b := k) (by omega) (by omega)).mpr zz9)
      refine r_push (v := nI 0) d_X6_lineOf_8 ?_
      refine r_goto d_X6_lineOf_9 ?_
      refine r_ireturn d_X6_lineOf_18 ⟨_, rfl, rfl⟩ ?_
      first | exact ⟨rfl, rfl⟩ | (exfalso; omega)
set_option maxRecDepth 10000 in
theorem c_X6_leftOf {h : pm_H} {a n k f lo hi : Nat} {n0 x : Nat} (ht : pm_sk h a n k f lo hi) (ok : pm_ok n k f lo hi) (hn : n0 ≤ 60) (hx : 1 ≤ x ∧ x < n0) : pm_Cv e_X6_leftOf [.ref a, .int (nI n0), .int (nI x)] h (.int (nI (sp_left k f n0 x))) h := by
  have hs := ht
  have g := ok
  obtain ⟨g1, g2, g3, g4, g5, g6, g7, g8⟩ := ok
  have r1 := sp_rest_le (k := k) (x := x) (by omega)
  have r2 := sp_rest_le (k := k) (x := n0 - f - x) (by omega)
  rcases ht with ⟨ht, e1, e2⟩ | ht
  ·
    refine pm_enter rfl (Nat.le_of_ble_eq_true rfl) ?_
    show pm_V e_X6_leftOf 0 [some (.ref a), some (.int (nI n0)), some (.int (nI x)), none] [] h (0, 0) _
    refine r_iload_1 d_X6_leftOf_0 ?_
    refine r_aload_0 d_X6_leftOf_1 ?_
    refine r_get d_X6_leftOf_2 s6_fingers ht rfl ?_
    refine r_isub d_X6_leftOf_5 ?_
    rw [pk_sub (a := n0) (b := f) (by omega)]
    refine r_iload_2 d_X6_leftOf_6 ?_
    refine r_isub d_X6_leftOf_7 ?_
    rw [pk_sub (a := (n0 - f)) (b := x) (by omega)]
    refine r_istore_3 d_X6_leftOf_8 (Nat.le_of_ble_eq_true rfl) (fun w hw => by cases hw <;> rfl) ?_
    refine r_iload_2 d_X6_leftOf_9 ?_
    refine r_aload_0 d_X6_leftOf_10 ?_
    refine r_iload_2 d_X6_leftOf_11 ?_
    refine r_V1 d_X6_leftOf_12_6 (c_X6_rest hs g (by omega)) ht rfl rfl ⟨rfl, rfl⟩ (Nat.le_of_ble_eq_true rfl) ?_
    refine r_isub d_X6_leftOf_15 ?_
    rw [pk_sub (a := x) (b := (sp_rest k x)) (by omega)]
    refine r_iload_3 d_X6_leftOf_16 ?_
    refine r_iadd d_X6_leftOf_17 ?_
    rw [nI_add]
    refine r_aload_0 d_X6_leftOf_18 ?_
    refine r_iload_3 d_X6_leftOf_19 ?_
    refine r_V1 d_X6_leftOf_20_6 (c_X6_rest hs g (by omega)) ht rfl rfl ⟨rfl, rfl⟩ (Nat.le_of_ble_eq_true rfl) ?_
    refine r_isub d_X6_leftOf_23 ?_
    rw [pk_sub (a := ((x - (sp_rest k x)) + ((n0 - f) - x))) (b := (sp_rest k (n0 - f - x))) (by omega)]
    refine r_ireturn d_X6_leftOf_24 ⟨_, rfl, rfl⟩ ?_
    exact ⟨rfl, rfl⟩
  ·
    refine pm_enter rfl (Nat.le_of_ble_eq_true rfl) ?_
    show pm_V e_X6_leftOf 0 [some (.ref a), some (.int (nI n0)), some (.int (nI x)), none] [] h (0, 0) _
    refine r_iload_1 d_X6_leftOf_0 ?_
    refine r_aload_0 d_X6_leftOf_1 ?_
    refine r_get d_X6_leftOf_2 s7_fingers ht rfl ?_
    refine r_isub d_X6_leftOf_5 ?_
    rw [pk_sub (a := n0) (b := f) (by omega)]
    refine r_iload_2 d_X6_leftOf_6 ?_
    refine r_isub d_X6_leftOf_7 ?_
    rw [pk_sub (a := (n0 - f)) (b := x) (by omega)]
    refine r_istore_3 d_X6_leftOf_8 (Nat.le_of_ble_eq_true rfl) (fun w hw => by cases hw <;> rfl) ?_
    refine r_iload_2 d_X6_leftOf_9 ?_
    refine r_aload_0 d_X6_leftOf_10 ?_
    refine r_iload_2 d_X6_leftOf_11 ?_
    refine r_V1 d_X6_leftOf_12_7 (c_X6_rest hs g (by omega)) ht rfl rfl ⟨rfl, rfl⟩ (Nat.le_of_ble_eq_true rfl) ?_
    refine r_isub d_X6_leftOf_15 ?_
    rw [pk_sub (a := x) (b := (sp_rest k x)) (by omega)]
    refine r_iload_3 d_X6_leftOf_16 ?_
    refine r_iadd d_X6_leftOf_17 ?_
    rw [nI_add]
    refine r_aload_0 d_X6_leftOf_18 ?_
    refine r_iload_3 d_X6_leftOf_19 ?_
    refine r_V1 d_X6_leftOf_20_7 (c_X6_rest hs g (by omega)) ht rfl rfl ⟨rfl, rfl⟩ (Nat.le_of_ble_eq_true rfl) ?_
    refine r_isub d_X6_leftOf_23 ?_
    rw [pk_sub (a := ((x - (sp_rest k x)) + ((n0 - f) - x))) (b := (sp_rest k (n0 - f - x))) (by omega)]
    refine r_ireturn d_X6_leftOf_24 ⟨_, rfl, rfl⟩ ?_
    exact ⟨rfl, rfl⟩
