set_option maxRecDepth 10000 in
set_option maxHeartbeats 4000000 in
theorem w_X9_odds_27 {h : pm_H} {xi : Nat → Int32} {xl : Nat → Int64} {xc : Nat → Option Nat} {XA : Nat → Nat → Int32} {XB : Nat → Nat → Int64} {j kd n k f lo hi : Nat} (hcs : pm_cs h (68 + j) kd n k f lo hi) {L : List (Option Value)} {b : Nat × Nat} {F : Option Value → pm_H → Prop} (K : ∀ W Hp Nx, sp_ag 31 W (sp_Wc (kd, n, k, f, lo, hi)).1 → pm_V e_X9_odds 30 L [] (pmO (pmX h xi xl xc XA XB) W Hp Nx (sp_Wc (kd, n, k, f, lo, hi)).2) b F) : pm_V e_X9_odds 27 L [.ref 13, .ref (68 + j)] (pmX h xi xl xc XA XB) b F := by
  obtain ⟨W0, Hp0, Nx0, al0, eO⟩ := pmX_Oo (h := h) (xi := xi) (xl := xl) (xc := xc) (XA := XA) (XB := XB)
  rw [eO]
  have hcg := sp_Wt_cg (kd := kd) (n := n) (k := k) (f := f) (lo := lo) (hi := hi) (w0 := W0) (Hp := Hp0) (Nx := Nx0) (w0' := (fun _ => 0)) (Hp' := (fun _ => 0)) (Nx' := (fun _ => 0))
  rcases hcs with ⟨e, z⟩ | ⟨e, z⟩ | ⟨e, e1, e2, ok, z⟩ | ⟨e, ok, z⟩
  · subst e
    have z9 := (pmX_ne (h := h) (xi := xi) (xl := xl) (xc := xc) (XA := XA) (XB := XB) (a := 68 + j) (by omega)).trans z
    exact r_V1v d_X9_odds_27_1 c_X1_weigh (pmO_ne (by omega) z9) rfl rfl ⟨rfl, rfl⟩ (Nat.le_of_ble_eq_true rfl) (K _ _ _ hcg.1)
  · subst e
    have z9 := (pmX_ne (h := h) (xi := xi) (xl := xl) (xc := xc) (XA := XA) (XB := XB) (a := 68 + j) (by omega)).trans z
    exact r_V1v d_X9_odds_27_2 c_X2_weigh (pmO_ne (by omega) z9) rfl rfl ⟨rfl, rfl⟩ (Nat.le_of_ble_eq_true rfl) (K _ _ _ hcg.1)
  · subst e
    have z9 := (pmX_ne (h := h) (xi := xi) (xl := xl) (xc := xc) (XA := XA) (XB := XB) (a := 68 + j) (by omega)).trans z
    have hbd := (sp_S3_ok (Hp := Hp0) (Nx := Nx0) ok ⟨ok.1, ok.2.1⟩).1
    refine r_V1v d_X9_odds_27_6 (c_X6_weigh (Or.inl ⟨z9, e1, e2⟩) ok (by omega) hbd) (pmO_ne (by omega) z9) rfl rfl ⟨rfl, rfl⟩ (Nat.le_of_ble_eq_true rfl) ?_
    have K1 := K _ (sp_S3 k f lo hi n Hp0 Nx0 3).1 (sp_S3 k f lo hi n Hp0 Nx0 3).2.1 hcg.1
    rw [show (sp_Wc (1, n, k, f, lo, hi)).2 = (sp_S3 k f lo hi n Hp0 Nx0 3).2.2 from hcg.2.symm] at K1
    exact K1
  · subst e
    have z9 := (pmX_ne (h := h) (xi := xi) (xl := xl) (xc := xc) (XA := XA) (XB := XB) (a := 68 + j) (by omega)).trans z
    have hbd := (sp_S3_ok (Hp := Hp0) (Nx := Nx0) ok ⟨ok.1, ok.2.1⟩).1
    refine r_V1v d_X9_odds_27_7 (c_X6_weigh (Or.inr z9) ok (by omega) hbd) (pmO_ne (by omega) z9) rfl rfl ⟨rfl, rfl⟩ (Nat.le_of_ble_eq_true rfl) ?_
    have K1 := K _ (sp_S3 k f lo hi n Hp0 Nx0 3).1 (sp_S3 k f lo hi n Hp0 Nx0 3).2.1 hcg.1
    rw [show (sp_Wc (3, n, k, f, lo, hi)).2 = (sp_S3 k f lo hi n Hp0 Nx0 3).2.2 from hcg.2.symm] at K1
    exact K1
set_option maxRecDepth 10000 in
set_option maxHeartbeats 4000000 in
theorem w_X9_mean_17 {h : pm_H} {xi : Nat → Int32} {xl : Nat → Int64} {xc : Nat → Option Nat} {XA : Nat → Nat → Int32} {XB : Nat → Nat → Int64} {j kd n k f lo hi : Nat} (hcs : pm_cs h (68 + j) kd n k f lo hi) {L : List (Option Value)} {b : Nat × Nat} {F : Option Value → pm_H → Prop} (K : ∀ W Hp Nx, sp_ag 31 W (sp_Wc (kd, n, k, f, lo, hi)).1 → pm_V e_X9_mean 20 L [] (pmO (pmX h xi xl xc XA XB) W Hp Nx (sp_Wc (kd, n, k, f, lo, hi)).2) b F) : pm_V e_X9_mean 17 L [.ref 13, .ref (68 + j)] (pmX h xi xl xc XA XB) b F := by
  obtain ⟨W0, Hp0, Nx0, al0, eO⟩ := pmX_Oo (h := h) (xi := xi) (xl := xl) (xc := xc) (XA := XA) (XB := XB)
  rw [eO]
  have hcg := sp_Wt_cg (kd := kd) (n := n) (k := k) (f := f) (lo := lo) (hi := hi) (w0 := W0) (Hp := Hp0) (Nx := Nx0) (w0' := (fun _ => 0)) (Hp' := (fun _ => 0)) (Nx' := (fun _ => 0))
  rcases hcs with ⟨e, z⟩ | ⟨e, z⟩ | ⟨e, e1, e2, ok, z⟩ | ⟨e, ok, z⟩
  · subst e
    have z9 := (pmX_ne (h := h) (xi := xi) (xl := xl) (xc := xc) (XA := XA) (XB := XB) (a := 68 + j) (by omega)).trans z
    exact r_V1v d_X9_mean_17_1 c_X1_weigh (pmO_ne (by omega) z9) rfl rfl ⟨rfl, rfl⟩ (Nat.le_of_ble_eq_true rfl) (K _ _ _ hcg.1)
  · subst e
    have z9 := (pmX_ne (h := h) (xi := xi) (xl := xl) (xc := xc) (XA := XA) (XB := XB) (a := 68 + j) (by omega)).trans z
    exact r_V1v d_X9_mean_17_2 c_X2_weigh (pmO_ne (by omega) z9) rfl rfl ⟨rfl, rfl⟩ (Nat.le_of_ble_eq_true rfl) (K _ _ _ hcg.1)
  · subst e
    have z9 := (pmX_ne (h := h) (xi := xi) (xl := xl) (xc := xc) (XA := XA) (XB := XB) (a := 68 + j) (by omega)).trans z
    have hbd := (sp_S3_ok (Hp := Hp0) (Nx := Nx0) ok ⟨ok.1, ok.2.1⟩).1
    refine r_V1v d_X9_mean_17_6 (c_X6_weigh (Or.inl ⟨z9, e1, e2⟩) ok (by omega) hbd) (pmO_ne (by omega) z9) rfl rfl ⟨rfl, rfl⟩ (Nat.le_of_ble_eq_true rfl) ?_
    have K1 := K _ (sp_S3 k f lo hi n Hp0 Nx0 3).1 (sp_S3 k f lo hi n Hp0 Nx0 3).2.1 hcg.1
    rw [show (sp_Wc (1, n, k, f, lo, hi)).2 = (sp_S3 k f lo hi n Hp0 Nx0 3).2.2 from hcg.2.symm] at K1
    exact K1
  · subst e
    have z9 := (pmX_ne (h := h) (xi := xi) (xl := xl) (xc := xc) (XA := XA) (XB := XB) (a := 68 + j) (by omega)).trans z
    have hbd := (sp_S3_ok (Hp := Hp0) (Nx := Nx0) ok ⟨ok.1, ok.2.1⟩).1
    refine r_V1v d_X9_mean_17_7 (c_X6_weigh (Or.inr z9) ok (by omega) hbd) (pmO_ne (by omega) z9) rfl rfl ⟨rfl, rfl⟩ (Nat.le_of_ble_eq_true rfl) ?_
    have K1 := K _ (sp_S3 k f lo hi n Hp0 Nx0 3).1 (sp_S3 k f lo hi n Hp0 Nx0 3).2.1 hcg.1
    rw [show (sp_Wc (3, n, k, f, lo, hi)).2 = (sp_S3 k f lo hi n Hp0 Nx0 3).2.2 from hcg.2.symm] at K1
    exact K1
set_option maxRecDepth 10000 in
set_option maxHeartbeats 4000000 in
theorem w_X9_need_30 {h : pm_H} {xi : Nat → Int32} {xl : Nat → Int64} {xc : Nat → Option Nat} {XA : Nat → Nat → Int32} {XB : Nat → Nat → Int64} {j kd n k f lo hi : Nat} (hcs : pm_cs h (68 + j) kd n k f lo hi) {L : List (Option Value)} {b : Nat × Nat} {F : Option Value → pm_H → Prop} (K : ∀ W Hp Nx, sp_ag 31 W (sp_Wc (kd, n, k, f, lo, hi)).1 → pm_V e_X9_need 33 L [] (pmO (pmX h xi xl xc XA XB) W Hp Nx (sp_Wc (kd, n, k, f, lo, hi)).2) b F) : pm_V e_X9_need 30 L [.ref 13, .ref (68 + j)] (pmX h xi xl xc XA XB) b F := by
  obtain ⟨W0, Hp0, Nx0, al0, eO⟩ := pmX_Oo (h := h) (xi := xi) (xl := xl) (xc := xc) (XA := XA) (XB := XB)
  rw [eO]
  have hcg := sp_Wt_cg (kd := kd) (n := n) (k := k) (f := f) (lo := lo) (hi := hi) (w0 := W0) (Hp := Hp0) (Nx := Nx0) (w0' := (fun _ => 0)) (Hp' := (fun _ => 0)) (Nx' := (fun _ => 0))
  rcases hcs with ⟨e, z⟩ | ⟨e, z⟩ | ⟨e, e1, e2, ok, z⟩ | ⟨e, ok, z⟩
  · subst e
    have z9 := (pmX_ne (h := h) (xi := xi) (xl := xl) (xc := xc) (XA := XA) (XB := XB) (a := 68 + j) (by omega)).trans z
    exact r_V1v d_X9_need_30_1 c_X1_weigh (pmO_ne (by omega) z9) rfl rfl ⟨rfl, rfl⟩ (Nat.le_of_ble_eq_true rfl) (K _ _ _ hcg.1)
  · subst e
    have z9 := (pmX_ne (h := h) (xi := xi) (xl := xl) (xc := xc) (XA := XA) (XB := XB) (a := 68 + j) (by omega)).trans z
    exact r_V1v d_X9_need_30_2 c_X2_weigh (pmO_ne (by omega) z9) rfl rfl ⟨rfl, rfl⟩ (Nat.le_of_ble_eq_true rfl) (K _ _ _ hcg.1)
  · subst e
    have z9 := (pmX_ne (h := h) (xi := xi) (xl := xl) (xc := xc) (XA := XA) (XB := XB) (a := 68 + j) (by omega)).trans z
    have hbd := (sp_S3_ok (Hp := Hp0) (Nx := Nx0) ok ⟨ok.1, ok.2.1⟩).1
    refine r_V1v d_X9_need_30_6 (c_X6_weigh (Or.inl ⟨z9, e1, e2⟩) ok (by omega) hbd) (pmO_ne (by omega) z9) rfl rfl ⟨rfl, rfl⟩ (Nat.le_of_ble_eq_true rfl) ?_
    have K1 := K _ (sp_S3 k f lo hi n Hp0 Nx0 3).1 (sp_S3 k f lo hi n Hp0 Nx0 3).2.1 hcg.1
    rw [show (sp_Wc (1, n, k, f, lo, hi)).2 = (sp_S3 k f lo hi n Hp0 Nx0 3).2.2 from hcg.2.symm] at K1
    exact K1
  · subst e
    have z9 := (pmX_ne (h := h) (xi := xi) (xl := xl) (xc := xc) (XA := XA) (XB := XB) (a := 68 + j) (by omega)).trans z
    have hbd := (sp_S3_ok (Hp := Hp0) (Nx := Nx0) ok ⟨ok.1, ok.2.1⟩).1
    refine r_V1v d_X9_need_30_7 (c_X6_weigh (Or.inr z9) ok (by omega) hbd) (pmO_ne (by omega) z9) rfl rfl ⟨rfl, rfl⟩ (Nat.le_of_ble_eq_true rfl) ?_
    have K1 := K _ (sp_S3 k f lo hi n Hp0 Nx0 3).1 (sp_S3 k f lo hi n Hp0 Nx0 3).2.1 hcg.1
    rw [show (sp_Wc (3, n, k, f, lo, hi)).2 = (sp_S3 k f lo hi n Hp0 Nx0 3).2.2 from hcg.2.symm] at K1
    exact K1
set_option maxRecDepth 10000 in
set_option maxHeartbeats 4000000 in
theorem w_X9_offOf_13 {h : pm_H} {xi : Nat → Int32} {xl : Nat → Int64} {xc : Nat → Option Nat} {XA : Nat → Nat → Int32} {XB : Nat → Nat → Int64} {j kd n k f lo hi : Nat} (hcs : pm_cs h (68 + j) kd n k f lo hi) {L : List (Option Value)} {b : Nat × Nat} {F : Option Value → pm_H → Prop} (K : ∀ W Hp Nx, sp_ag 31 W (sp_Wc (kd, n, k, f, lo, hi)).1 → pm_V e_X9_offOf 16 L [] (pmO (pmX h xi xl xc XA XB) W Hp Nx (sp_Wc (kd, n, k, f, lo, hi)).2) b F) : pm_V e_X9_offOf 13 L [.ref 13, .ref (68 + j)] (pmX h xi xl xc XA XB) b F := by
  obtain ⟨W0, Hp0, Nx0, al0, eO⟩ := pmX_Oo (h := h) (xi := xi) (xl := xl) (xc := xc) (XA := XA) (XB := XB)
  rw [eO]
  have hcg := sp_Wt_cg (kd := kd) (n := n) (k := k) (f := f) (lo := lo) (hi := hi) (w0 := W0) (Hp := Hp0) (Nx := Nx0) (w0' := (fun _ => 0)) (Hp' := (fun _ => 0)) (Nx' := (fun _ => 0))
  rcases hcs with ⟨e, z⟩ | ⟨e, z⟩ | ⟨e, e1, e2, ok, z⟩ | ⟨e, ok, z⟩
  · subst e
    have z9 := (pmX_ne (h := h) (xi := xi) (xl := xl) (xc := xc) (XA := XA) (XB := XB) (a := 68 + j) (by omega)).trans z
    exact r_V1v d_X9_offOf_13_1 c_X1_weigh (pmO_ne (by omega) z9) rfl rfl ⟨rfl, rfl⟩ (Nat.le_of_ble_eq_true rfl) (K _ _ _ hcg.1)
  · subst e
    have z9 := (pmX_ne (h := h) (xi := xi) (xl := xl) (xc := xc) (XA := XA) (XB := XB) (a := 68 + j) (by omega)).trans z
    exact r_V1v d_X9_offOf_13_2 c_X2_weigh (pmO_ne (by omega) z9) rfl rfl ⟨rfl, rfl⟩ (Nat.le_of_ble_eq_true rfl) (K _ _ _ hcg.1)
  · subst e
    have z9 := (pmX_ne (h := h) (xi := xi) (xl := xl) (xc := xc) (XA := XA) (XB := XB) (a := 68 + j) (by omega)).trans z
    have hbd := (sp_S3_ok (Hp := Hp0) (Nx := Nx0) ok ⟨ok.1, ok.2.1⟩).1
    refine r_V1v d_X9_offOf_13_6 (c_X6_weigh (Or.inl ⟨z9, e1, e2⟩) ok (by omega) hbd) (pmO_ne (by omega) z9) rfl rfl ⟨rfl, rfl⟩ (Nat.le_of_ble_eq_true rfl) ?_
    have K1 := K _ (sp_S3 k f lo hi n Hp0 Nx0 3).1 (sp_S3 k f lo hi n Hp0 Nx0 3).2.1 hcg.1
    rw [show (sp_Wc (1, n, k, f, lo, hi)).2 = (sp_S3 k f lo hi n Hp0 Nx0 3).2.2 from hcg.2.symm] at K1
    exact K1
  · subst e
    have z9 := (pmX_ne (h := h) (xi := xi) (xl := xl) (xc := xc) (XA := XA) (XB := XB) (a := 68 + j) (by omega)).trans z
    have hbd := (sp_S3_ok (Hp := Hp0) (Nx := Nx0) ok ⟨ok.1, ok.2.1⟩).1
    refine r_V1v d_X9_offOf_13_7 (c_X6_weigh (Or.inr z9) ok (by omega) hbd) (pmO_ne (by omega) z9) rfl rfl ⟨rfl, rfl⟩ (Nat.le_of_ble_eq_true rfl) ?_
    have K1 := K _ (sp_S3 k f lo hi n Hp0 Nx0 3).1 (sp_S3 k f lo hi n Hp0 Nx0 3).2.1 hcg.1
    rw [show (sp_Wc (3, n, k, f, lo, hi)).2 = (sp_S3 k f lo hi n Hp0 Nx0 3).2.2 from hcg.2.symm] at K1
    exact K1
theorem x_Wc {h : pm_H} {a kd n k f lo hi : Nat} (hcs : pm_cs h a kd n k f lo hi) : 0 < (sp_Wc (kd, n, k, f, lo, hi)).2 ∧ (sp_Wc (kd, n, k, f, lo, hi)).2 < 2 ^ 40 ∧ sp_sum (sp_Wc (kd, n, k, f, lo, hi)).1 31 = (sp_Wc (kd, n, k, f, lo, hi)).2 := by
  refine sp_Wt_ok ?_
  rcases hcs with ⟨e, z⟩ | ⟨e, z⟩ | ⟨e, e1, e2, ok, z⟩ | ⟨e, ok, z⟩
  · exact Or.inl e
  · exact Or.inr (Or.inl e)
  · exact Or.inr (Or.inr ⟨Or.inl e, ok⟩)
  · exact Or.inr (Or.inr ⟨Or.inr e, ok⟩)
set_option maxRecDepth 10000 in
set_option maxHeartbeats 4000000 in
theorem c_X9_odds_none {h : pm_H} {xi : Nat → Int32} {xl : Nat → Int64} {xc : Nat → Option Nat} {XA : Nat → Nat → Int32} {XB : Nat → Nat → Int64} {c v : Int32} {cn : Nat} {C : Nat → sp_Cs} (hCC : x_CC h xi xc cn C) (hci : pm_ci c cn = none) : pm_Cv e_X9_odds [.ref 1, .int c, .int v] (pmX h xi xl xc XA XB) (.int (-1)) (pmX h xi xl xc XA XB) := by
  refine pm_enter rfl (Nat.le_of_ble_eq_true rfl) ?_
  show pm_V e_X9_odds 0 [some (.ref 1), some (.int c), some (.int v), none] [] (pmX h xi xl xc XA XB) (0, 0) _
  refine r_aload_0 d_X9_odds_0 ?_
  refine r_iload_1 d_X9_odds_1 ?_
  refine r_V1 d_X9_odds_2 (c_X9_casterAt_no hCC.1 hci) rfl rfl rfl ⟨rfl, rfl⟩ (Nat.le_of_ble_eq_true rfl) ?_
  refine r_astoreN_3 d_X9_odds_5 (Nat.le_of_ble_eq_true rfl) (fun w hw => by cases hw <;> rfl) ?_
  refine r_aloadN_3 d_X9_odds_6 ?_
  refine r_ifnullN d_X9_odds_7 ?_
  refine r_push d_X9_odds_20 ?_
  refine r_ireturn d_X9_odds_21 ⟨_, rfl, rfl⟩ ?_
  exact ⟨rfl, rfl⟩
set_option maxRecDepth 10000 in
set_option maxHeartbeats 4000000 in
theorem c_X9_odds_bad {h : pm_H} {xi : Nat → Int32} {xl : Nat → Int64} {xc : Nat → Option Nat} {XA : Nat → Nat → Int32} {XB : Nat → Nat → Int64} {j : Nat} {v : Int32} {cn : Nat} {C : Nat → sp_Cs} (hCC : x_CC h xi xc cn C) (hj : j < cn) (hv : sp_in v 0 30 = false) : pm_Cv e_X9_odds [.ref 1, .int (nI j), .int v] (pmX h xi xl xc XA XB) (.int (-1)) (pmX h xi xl xc XA XB) := by
  refine pm_enter rfl (Nat.le_of_ble_eq_true rfl) ?_
  show pm_V e_X9_odds 0 [some (.ref 1), some (.int (nI j)), some (.int v), none] [] (pmX h xi xl xc XA XB) (0, 0) _
  refine r_aload_0 d_X9_odds_0 ?_
  refine r_iload_1 d_X9_odds_1 ?_
  refine r_V1 d_X9_odds_2 (c_X9_casterAt hCC hj) rfl rfl rfl ⟨rfl, rfl⟩ (Nat.le_of_ble_eq_true rfl) ?_
  refine r_astore_3 d_X9_odds_5 (Nat.le_of_ble_eq_true rfl) (fun w hw => by cases hw <;> rfl) ?_
  refine r_aload_3 d_X9_odds_6 ?_
  refine r_ifnull d_X9_odds_7 ?_
  refine r_iload_2 d_X9_odds_10 ?_
  refine r_if_lt d_X9_odds_11 (fun c11 => ?_) (fun c11 => ?_)
  · -- taken at 11
    refine r_push d_X9_odds_20 ?_
    refine r_ireturn d_X9_odds_21 ⟨_, rfl, rfl⟩ ?_
    exact ⟨rfl, rfl⟩
  · -- not taken at 11
    refine r_iload_2 d_X9_odds_14 ?_
    refine r_push d_X9_odds_15 ?_
    refine r_icmp_le d_X9_odds_17 (fun c17 => ?_) (fun c17 => ?_)
    · -- taken at 17
      exact absurd ⟨Int32.not_lt.mp c11, c17⟩ (of_decide_eq_false hv)
    · -- not taken at 17
      refine r_push d_X9_odds_20 ?_
      refine r_ireturn d_X9_odds_21 ⟨_, rfl, rfl⟩ ?_
      exact ⟨rfl, rfl⟩
set_option maxRecDepth 10000 in
set_option maxHeartbeats 4000000 in
theorem c_X9_odds {h : pm_H} {xi : Nat → Int32} {xl : Nat → Int64} {xc : Nat → Option Nat} {XA : Nat → Nat → Int32} {XB : Nat → Nat → Int64} {j v : Nat} {cn : Nat} {C : Nat → sp_Cs} (hCC : x_CC h xi xc cn C) (hj : j < cn) (hv : v < 31) : pm_Cl e_X9_odds [.ref 1, .int (nI j), .int (nI v)] (pmX h xi xl xc XA XB) (fun v9 h1 => v9 = some (.int (nI 1)) ∧ ∃ x X1, h1 = pmX h xi (vp_updL (vp_updL (vp_updL xl 4 x) 1 (lN (m_u ((sp_Wc (C j)).1 v) (sp_Wc (C j)).2))) 2 (lN (m_l ((sp_Wc (C j)).1 v) (sp_Wc (C j)).2))) xc XA X1) := by
  have hA : pm_Cv e_X9_casterAt [.ref 1, .int (nI j)] (pmX h xi xl xc XA XB) (.ref (68 + j)) (pmX h xi xl xc XA XB) := c_X9_casterAt hCC hj
  have hcs := (hCC.2.2 j hj).2
  generalize C j = q9 at hcs ⊢
  obtain ⟨kd, n, k, f, lo, hi⟩ := q9
  change pm_cs h (68 + j) kd n k f lo hi at hcs
  obtain ⟨w1, w2, w3⟩ := x_Wc hcs
  have w4 := sp_sum_ge (f := (sp_Wc (kd, n, k, f, lo, hi)).1) (k := v) (n := 31) hv
  refine pm_enter rfl (Nat.le_of_ble_eq_true rfl) ?_
  show pm_V e_X9_odds 0 [some (.ref 1), some (.int (nI j)), some (.int (nI v)), none] [] (pmX h xi xl xc XA XB) (0, 0) _
  refine r_aload_0 d_X9_odds_0 ?_
  refine r_iload_1 d_X9_odds_1 ?_
  refine r_V1 d_X9_odds_2 hA rfl rfl rfl ⟨rfl, rfl⟩ (Nat.le_of_ble_eq_true rfl) ?_
  refine r_astore_3 d_X9_odds_5 (Nat.le_of_ble_eq_true rfl) (fun w hw => by cases hw <;> rfl) ?_
  refine r_aload_3 d_X9_odds_6 ?_
  refine r_ifnull d_X9_odds_7 ?_
  refine r_iload_2 d_X9_odds_10 ?_
  refine r_if_lt d_X9_odds_11 (fun c11 => ?_) (fun c11 => ?_)
  · -- taken at 11
    have c11 : v < 0 := (nI_ltI (a := v) (b := 0) (by omega) (by omega)).mp c11
    exfalso; omega
  · -- not taken at 11
    have c11 : ¬ v < 0 := fun zz9 => c11 ((nI_ltI (a := v) (b := 0) (by omega) (by omega)).mpr zz9)
    refine r_iload_2 d_X9_odds_14 ?_
    refine r_push (v := nI 30) d_X9_odds_15 ?_
    refine r_icmp_le d_X9_odds_17 (fun c17 => ?_) (fun c17 => ?_)
    · -- taken at 17
      have c17 : v ≤ 30 := (nI_leI (a := v) (b := 30) (by omega) (by omega)).mp c17
      refine r_aload_3 d_X9_odds_22 ?_
      refine r_aload_0 d_X9_odds_23 ?_
      refine r_get d_X9_odds_24 s9_odds rfl rfl ?_
      refine w_X9_odds_27 hcs (fun W Hp Nx hag => ?_)
      have hWv := hag v hv
      generalize sp_Wc (kd, n, k, f, lo, hi) = T at *
      refine r_aload_0 d_X9_odds_30 ?_
      refine r_aload_0 d_X9_odds_31 ?_
      refine r_get d_X9_odds_32 s9_odds rfl rfl ?_
      refine r_get d_X9_odds_35 s4_weights rfl rfl ?_
      refine r_iload_2 d_X9_odds_38 ?_
      refine r_lald d_X9_odds_39 rfl (pm_ixN (by omega) (by omega)) ?_
      rw [hWv]
      refine r_aload_0 d_X9_odds_40 ?_
      refine r_get d_X9_odds_41 s9_odds rfl rfl ?_
      refine r_get d_X9_odds_44 s4_all rfl rfl ?_
      rw [pmX_O]
      refine r_V2v d_X9_odds_47 (c_X9_tellFraction w1 w2 (by omega)) rfl rfl rfl ⟨rfl, rfl⟩ (Nat.le_of_ble_eq_true rfl) ?_
      refine r_push (v := nI 1) d_X9_odds_50 ?_
      refine r_ireturn d_X9_odds_51 ⟨_, rfl, rfl⟩ ?_
      exact ⟨rfl, _, _, rfl⟩
    · -- not taken at 17
      have c17 : ¬ v ≤ 30 := fun zz9 => c17 ((nI_leI (a := v) (b := 30) (by omega) (by omega)).mpr zz9)
      exfalso; omega
set_option maxRecDepth 10000 in
set_option maxHeartbeats 4000000 in
theorem c_X9_mean_none {h : pm_H} {xi : Nat → Int32} {xl : Nat → Int64} {xc : Nat → Option Nat} {XA : Nat → Nat → Int32} {XB : Nat → Nat → Int64} {c : Int32} {cn : Nat} {C : Nat → sp_Cs} (hCC : x_CC h xi xc cn C) (hci : pm_ci c cn = none) : pm_Cv e_X9_mean [.ref 1, .int c] (pmX h xi xl xc XA XB) (.int (-1)) (pmX h xi xl xc XA XB) := by
  refine pm_enter rfl (Nat.le_of_ble_eq_true rfl) ?_
  show pm_V e_X9_mean 0 [some (.ref 1), some (.int c), none, none, none, none] [] (pmX h xi xl xc XA XB) (0, 0) _
  refine r_aload_0 d_X9_mean_0 ?_
  refine r_iload_1 d_X9_mean_1 ?_
  refine r_V1 d_X9_mean_2 (c_X9_casterAt_no hCC.1 hci) rfl rfl rfl ⟨rfl, rfl⟩ (Nat.le_of_ble_eq_true rfl) ?_
  refine r_astoreN_2 d_X9_mean_5 (Nat.le_of_ble_eq_true rfl) (fun w hw => by cases hw <;> rfl) ?_
  refine r_aloadN_2 d_X9_mean_6 ?_
  refine r_ifnonnullN d_X9_mean_7 ?_
  refine r_push d_X9_mean_10 ?_
  refine r_ireturn d_X9_mean_11 ⟨_, rfl, rfl⟩ ?_
  exact ⟨rfl, rfl⟩
set_option maxRecDepth 10000 in
set_option maxHeartbeats 4000000 in
theorem lp_X9_mean {h : pm_H} {xi : Nat → Int32} {xl : Nat → Int64} {xc : Nat → Option Nat} {XA : Nat → Nat → Int32} {XB : Nat → Nat → Int64} {W Hp Nx W1 : Nat → Nat} {al j : Nat} (hag : sp_ag 31 W W1) {F : Option Value → pm_H → Prop} {b : Nat × Nat} (K : pm_V e_X9_mean 55 [some (.ref 1), some (.int (nI j)), some (.ref (68 + j)), some (.long (lN (sp_mn W1 31))), none, some (.int (nI 31))] [] (pmO (pmX h xi xl xc XA XB) W Hp Nx al) b F) : ∀ (d i : Nat), i + d = 31 → pm_V e_X9_mean 25 [some (.ref 1), some (.int (nI j)), some (.ref (68 + j)), some (.long (lN (sp_mn W1 i))), none, some (.int (nI i))] [] (pmO (pmX h xi xl xc XA XB) W Hp Nx al) b F := by
  intro d
  induction d with
  | zero =>
    intro i hid
    obtain rfl : i = 31 := by omega
    refine r_iload_5 d_X9_mean_25 ?_
    refine r_push (v := nI 30) d_X9_mean_27 ?_
    refine r_icmp_gt d_X9_mean_29 (fun c29 => ?_) (fun c29 => absurd (by decide) c29)
    clear c29
    exact K
  | succ d ih =>
    intro i hid
    have hWi := hag i (by omega)
    have K1 := ih (i + 1) (by omega)
    rw [show sp_mn W1 (i + 1) = sp_mn W1 i + i * W1 i from rfl] at K1
    generalize sp_mn W1 i = s at K1 ⊢
    refine r_iload_5 d_X9_mean_25 ?_
    refine r_push (v := nI 30) d_X9_mean_27 ?_
    refine r_icmp_gt d_X9_mean_29 (fun c29 => ?_) (fun c29 => ?_)
    · -- taken at 29
      have c29 : 30 < i := (nI_ltI (a := 30) (b := i) (by omega) (by omega)).mp c29
      exfalso; omega
    · -- not taken at 29
      have c29 : ¬ 30 < i := fun zz9 => c29 ((nI_ltI (a := 30) (b := i) (by omega) (by omega)).mpr zz9)
      refine r_lload_3 d_X9_mean_32 ?_
      refine r_iload_5 d_X9_mean_33 ?_
      refine r_i2l d_X9_mean_35 ?_
      rw [nI_l (n := i) (by omega)]
      refine r_aload_0 d_X9_mean_36 ?_
      refine r_get d_X9_mean_37 s9_odds rfl rfl ?_
      refine r_get d_X9_mean_40 s4_weights rfl rfl ?_
      refine r_iload_5 d_X9_mean_43 ?_
      refine r_lald d_X9_mean_45 rfl (pm_ixN (by omega) (by omega)) ?_
      rw [hWi]
      refine r_lmul d_X9_mean_46 ?_
      rw [lN_mul]
      refine r_ladd d_X9_mean_47 ?_
      rw [lN_add]
      refine r_lstore_3 d_X9_mean_48 (Nat.le_of_ble_eq_true rfl) (fun w hw => by cases hw <;> rfl) ?_
      refine r_iinc_5 d_X9_mean_49 (Nat.le_of_ble_eq_true rfl) (fun w hw => by cases hw <;> rfl) ?_
      rw [nI_1]
      refine r_goto d_X9_mean_52 ?_
      exact K1
set_option maxRecDepth 10000 in
set_option maxHeartbeats 4000000 in
theorem c_X9_mean {h : pm_H} {xi : Nat → Int32} {xl : Nat → Int64} {xc : Nat → Option Nat} {XA : Nat → Nat → Int32} {XB : Nat → Nat → Int64} {j : Nat} {cn : Nat} {C : Nat → sp_Cs} (hCC : x_CC h xi xc cn C) (hj : j < cn) : pm_Cl e_X9_mean [.ref 1, .int (nI j)] (pmX h xi xl xc XA XB) (fun v9 h1 => v9 = some (.int (nI 1)) ∧ ∃ x X1, h1 = pmX h xi (vp_updL (vp_updL (vp_updL xl 4 x) 1 (lN (m_u (sp_mn (sp_Wc (C j)).1 31) (sp_Wc (C j)).2))) 2 (lN (m_l (sp_mn (sp_Wc (C j)).1 31) (sp_Wc (C j)).2))) xc XA X1) := by
  have hA : pm_Cv e_X9_casterAt [.ref 1, .int (nI j)] (pmX h xi xl xc XA XB) (.ref (68 + j)) (pmX h xi xl xc XA XB) := c_X9_casterAt hCC hj
  have hcs := (hCC.2.2 j hj).2
  generalize C j = q9 at hcs ⊢
  obtain ⟨kd, n, k, f, lo, hi⟩ := q9
  change pm_cs h (68 + j) kd n k f lo hi at hcs
  obtain ⟨w1, w2, w3⟩ := x_Wc hcs
  have w4 := sp_mn_le (W := (sp_Wc (kd, n, k, f, lo, hi)).1) 31 (by decide)
  refine pm_enter rfl (Nat.le_of_ble_eq_true rfl) ?_
  show pm_V e_X9_mean 0 [some (.ref 1), some (.int (nI j)), none, none, none, none] [] (pmX h xi xl xc XA XB) (0, 0) _
  refine r_aload_0 d_X9_mean_0 ?_
  refine r_iload_1 d_X9_mean_1 ?_
  refine r_V1 d_X9_mean_2 hA rfl rfl rfl ⟨rfl, rfl⟩ (Nat.le_of_ble_eq_true rfl) ?_
  refine r_astore_2 d_X9_mean_5 (Nat.le_of_ble_eq_true rfl) (fun w hw => by cases hw <;> rfl) ?_
  refine r_aload_2 d_X9_mean_6 ?_
  refine r_ifnonnull d_X9_mean_7 ?_
  refine r_aload_2 d_X9_mean_12 ?_
  refine r_aload_0 d_X9_mean_13 ?_
  refine r_get d_X9_mean_14 s9_odds rfl rfl ?_
  refine w_X9_mean_17 hcs (fun W Hp Nx hag => ?_)
  generalize sp_Wc (kd, n, k, f, lo, hi) = T at *
  refine r_pushl (v := lN 0) d_X9_mean_20 ?_
  refine r_lstore_3 d_X9_mean_21 (Nat.le_of_ble_eq_true rfl) (fun w hw => by cases hw <;> rfl) ?_
  refine r_push (v := nI 0) d_X9_mean_22 ?_
  refine r_istore_5 d_X9_mean_23 (Nat.le_of_ble_eq_true rfl) (fun w hw => by cases hw <;> rfl) ?_
  refine lp_X9_mean (W1 := T.1) hag ?_ 31 0 (by omega)
  refine r_aload_0 d_X9_mean_55 ?_
  refine r_lload_3 d_X9_mean_56 ?_
  refine r_aload_0 d_X9_mean_57 ?_
  refine r_get d_X9_mean_58 s9_odds rfl rfl ?_
  refine r_get d_X9_mean_61 s4_all rfl rfl ?_
  rw [pmX_O]
  refine r_V2v d_X9_mean_64 (c_X9_tellFraction w1 w2 (by omega)) rfl rfl rfl ⟨rfl, rfl⟩ (Nat.le_of_ble_eq_true rfl) ?_
  refine r_push (v := nI 1) d_X9_mean_67 ?_
  refine r_ireturn d_X9_mean_68 ⟨_, rfl, rfl⟩ ?_
  exact ⟨rfl, _, _, rfl⟩
